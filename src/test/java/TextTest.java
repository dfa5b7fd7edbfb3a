/** Promises 17 to 21: write, erase, fault, tells, beside. */
public final class TextTest {
    private static final long BAD = -2000000000000000000L, NO = -3000000000000000000L;
    private static final Check check = new Check();

    public static void main(String[] args) {
        writing();
        faults();
        numbers();
        letters();
        toldIsRefused();
        orderBeside();
        check.finish();
    }

    private static void writing() {
        TouchLeague x = new TouchLeague();
        long before = x.digest();
        check.refused(x, "text 4", before, x.write(4, 'w'), -2);
        check.refused(x, "text -1", before, x.write(-1, 'w'), -2);
        check.refused(x, "character 128", before, x.write(0, 128), -2);
        check.refused(x, "character -1", before, x.write(0, -1), -2);
        check.refused(x, "erase 4", before, x.erase(4), -2);
        check.refused(x, "erase -1", before, x.erase(-1), -2);
        check.due("character 0", x.write(3, 0), 1);
        check.due("character 127", x.write(3, 127), 2);
        for (int i = 3; i <= 50; i++) {
            check.due("character " + i, x.write(3, '1'), i);
        }
        before = x.digest();
        check.refused(x, "the 51st", before, x.write(3, '1'), -4);
        check.refused(x, "BAD ahead of FULL", before, x.write(3, 128), -2);
        check.due("another text", x.write(2, '1'), 1);
        check.due("erased", x.erase(3), 50);
        check.due("erased again", x.erase(3), 0);
        check.due("written anew", x.write(3, '7'), 1);
        check.due("the old ones are gone", x.fault(3), -1);
    }

    private static void faultOf(String text, int want) {
        TouchLeague x = new TouchLeague();
        check.due("length of " + text, Check.write(x, 1, text), text.length());
        check.due("fault of \"" + text + "\"", x.fault(1), want);
    }

    private static void faults() {
        TouchLeague x = new TouchLeague();
        check.due("text 4", x.fault(4), -2);
        check.due("text -1", x.fault(-1), -2);
        check.due("empty", x.fault(0), 1);
        faultOf("1", -1);
        faultOf("   ", 31);
        faultOf(" w ", -1);
        faultOf("w +", 31);
        faultOf("w+", 21);
        faultOf("+w", 1);
        faultOf("--w", -1);
        faultOf("- - w", -1);
        faultOf("-", 11);
        faultOf("w d", 21);
        faultOf("1 2", 21);
        faultOf("12w", 21);
        faultOf("w1", 11);
        faultOf("123456", -1);
        faultOf("1+1234567", 22);
        faultOf("1+1234567890)", 22);
        faultOf("123456 7", 71);
        faultOf("(w)", -1);
        faultOf("(w", 21);
        faultOf("()", 11);
        faultOf("w)", 11);
        faultOf("(w))", 31);
        faultOf("w(", 11);
        faultOf("2*-d", -1);
        faultOf("2**d", 21);
        faultOf("2/*d", 21);
        faultOf("2+*d", 21);
        faultOf("W", 1);
        faultOf("a", 1);
        faultOf("w%d", 11);
        faultOf("w\td", 11);
        faultOf("w" + (char) 0, 11);
        faultOf("w-d*g/b+s-y*r", -1);
        faultOf("((((((((1))))))))", -1);
        faultOf("(((((((((1)))))))))", 83);
        faultOf("((((((((1)+(1)))))))", 201);
        faultOf("((((((((1)+((1", 123);
        faultOf("(((((((( (", 93);
        faultOf("(1)+(1)+(1)+(1)+(1)+(1)+(1)+(1)+(1)+(1)", -1);
        faultOf("-------------------------------------------------1", -1);
        faultOf("--------------------------------------------------", 501);
        faultOf("1+1+1+1+1+1+1+1+1+1+1+1+1+1+1+1+1+1+1+1+1+1+1+1+1+", 501);
    }

    private static long told(String text) {
        TouchLeague x = Check.withPlainFencers(2);
        x.pool(3);
        Check.write(x, 0, text);
        return x.tells(0, 0, 0);
    }

    private static void numbers() {
        check.due("1+2*3", told("1+2*3"), 7);
        check.due("10-3-4", told("10-3-4"), 3);
        check.due("10-3+4", told("10-3+4"), 11);
        check.due("100/7/2", told("100/7/2"), 7);
        check.due("7/2*2", told("7/2*2"), 6);
        check.due("2*7/2", told("2*7/2"), 7);
        check.due("-7/2", told("-7/2"), -3);
        check.due("7/-2", told("7/-2"), -3);
        check.due("--7", told("--7"), 7);
        check.due("1---7", told("1---7"), -6);
        check.due("2*-3+1", told("2*-3+1"), -5);
        check.due("-(2+3)*4", told("-(2+3)*4"), -20);
        check.due("5/0", told("5/0"), 0);
        check.due("1+5/0*9", told("1+5/0*9"), 1);
        check.due("5/(3-3)", told("5/(3-3)"), 0);
        check.due("( 1 + 2 ) * ( 3 - 9 )", told("( 1 + 2 ) * ( 3 - 9 )"), -18);
        check.due("2*(3+(4-(5+6))*2)-1", told("2*(3+(4-(5+6))*2)-1"), -23);
        check.due("007", told("007"), 7);
        long wraps = 999999L * 999999L * 999999L * 999999L;
        check.due("wraps", told("999999*999999*999999*999999"), wraps);
        check.due("least by -1", told("65536*65536*65536*32768/-1"), Long.MIN_VALUE);
    }

    private static TouchLeague league() {
        TouchLeague x = Check.withFencers(0, 0, 40, 1, 1, 50, 2, 2, 60);
        x.pool(3);
        x.pool(7);
        x.bout(1, 0, 0, 9, 100, 0);
        x.event(0, 2, 1, 1);
        x.event(0, 2, 1, 2);
        x.event(0, 3, 1, 3);
        x.event(0, 2, 0, 4);
        x.event(0, 0, 1, 5);
        x.end(0);
        x.bout(0, 1, 0, 9, 100, 0);
        x.event(1, 2, 0, 1);
        x.event(1, 0, 0, 5);
        x.end(1);
        x.bout(0, 1, 0, 9, 100, 0);
        x.event(2, 2, 0, 1);
        x.event(2, 3, 0, 1);
        return x;
    }

    private static void letter(TouchLeague x, String letter, long first, long second) {
        Check.write(x, 2, letter);
        check.due(letter + " of 0", x.tells(2, 0, 0), first);
        check.due(letter + " of 1", x.tells(2, 0, 1), second);
    }

    private static void letters() {
        TouchLeague x = league();
        letter(x, "w", 500, 500);
        letter(x, "d", 0, 0);
        letter(x, "g", 2, 2);
        letter(x, "b", 2, 2);
        letter(x, "s", 40, 50);
        letter(x, "y", 2, 1);
        letter(x, "r", 2, 0);
        letter(x, "w*10000+d*100+g", 5000002, 5000002);
        x.tear(0, true);
        letter(x, "w", 1000, 0);
        letter(x, "d", 1, -1);
        letter(x, "y", 1, 0);
        letter(x, "r", 0, 0);
    }

    private static void toldIsRefused() {
        TouchLeague x = league();
        check.due("a fault", x.tells(0, 0, 0), NO);
        check.due("BAD ahead of NO", x.tells(0, 0, 2), BAD);
        Check.write(x, 0, "1");
        check.due("told", x.tells(0, 0, 0), 1);
        check.due("not in it", x.tells(0, 0, 2), BAD);
        check.due("in the other", x.tells(0, 1, 2), 1);
        check.due("no such fencer", x.tells(0, 1, 3), BAD);
        check.due("fencer -1", x.tells(0, 1, -1), BAD);
        check.due("no such pool", x.tells(0, 2, 0), BAD);
        check.due("pool -1", x.tells(0, -1, 0), BAD);
        check.due("text 4", x.tells(4, 0, 0), BAD);
        check.due("text -1", x.tells(-1, 0, 0), BAD);
    }

    private static void orderBeside() {
        TouchLeague x = league();
        x.tear(1, true);
        check.due("the order", x.order(0, 0), 1);
        Check.write(x, 0, "w");
        x.pool(6);
        check.due("like the order", x.beside(0, 0, 0), 1);
        Check.write(x, 1, "0-w");
        check.due("the other way round", x.beside(1, 0, 0), 0);
        check.due("the other way round", x.beside(1, 0, 1), 1);
        Check.write(x, 2, "7");
        check.due("alike: as the order", x.beside(2, 0, 0), 1);
        check.due("alike: as the order", x.beside(2, 0, 1), 0);
        Check.write(x, 3, "s/55");
        check.due("the greater first", x.beside(3, 1, 0), 2);
        check.due("then as the order", x.beside(3, 1, 1), 0);
        check.due("then as the order", x.beside(3, 1, 2), 1);
        check.due("not so many", x.beside(3, 1, 3), -1);
        Check.write(x, 0, "0-w*10+s");
        check.due("all three turned", x.beside(0, 1, 0), 2);
        check.due("all three turned", x.beside(0, 1, 1), 1);
        check.due("all three turned", x.beside(0, 1, 2), 0);
        check.due("i -1", x.beside(3, 1, -1), -2);
        check.due("no such pool", x.beside(3, 3, 0), -2);
        check.due("pool -1", x.beside(3, -1, 0), -2);
        check.due("text 4", x.beside(4, 0, 0), -2);
        check.due("text -1", x.beside(-1, 0, 0), -2);
        x.write(3, ')');
        check.due("a fault", x.beside(3, 1, 0), -3);
        check.due("a fault ahead of NONE", x.beside(3, 1, 9), -3);
        check.due("BAD ahead of NO", x.beside(3, 1, -1), -2);
    }
}
