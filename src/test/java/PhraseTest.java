/** Promises 1 to 5: a new object, phrase, act, line, touch. */
public final class PhraseTest {
    private static final int ATTACK = 0, PARRY = 1, RIPOSTE = 2, HALT = 3, LIGHT = 4;
    private static final int FOIL = 0, SABRE = 1, EPEE = 2;
    private static final Check check = new Check();

    public static void main(String[] args) {
        newObject();
        phraseIsEmptied();
        actsAreRefused();
        attacksAtOneTime();
        parriesAndRipostes();
        halts();
        linesAreRefused();
        lamps();
        touchOfTheLine();
        check.finish();
    }

    private static TouchLeague acts(int... acts) {
        TouchLeague x = new TouchLeague();
        for (int i = 0; i + 2 < acts.length; i += 3) {
            check.due("act " + i / 3, x.act(acts[i], acts[i + 1], acts[i + 2]), i / 3 + 1);
        }
        return x;
    }

    private static void newObject() {
        TouchLeague x = new TouchLeague();
        for (int what = 0; what <= 7; what++) {
            check.due("count(" + what + ") of a new one", x.count(what), 0);
        }
        for (int text = 0; text < 4; text++) {
            check.due("a new text's length", x.erase(text), 0);
        }
        check.due("a new line", x.line(FOIL, 9999), -1);
        check.due("a new touch", x.touch(EPEE), -1);
        check.due("a new relay", x.relay(210, -1), 0);
        check.due("no image 0", x.from(0), -3);
        check.due("no image 1", x.from(1), -3);
        check.due("k at first", x.counted(5), 5);
        check.due("digest of a new one", x.digest(), emptyDigest());
    }

    /** 293, eight counts of 0, four texts of 0 characters, k = 5. */
    private static long emptyDigest() {
        long h = 293;
        for (int i = 0; i < 12; i++) {
            h = 31 * h;
        }
        return 31 * h + 5;
    }

    private static void phraseIsEmptied() {
        TouchLeague x = acts(0, ATTACK, 100, 0, LIGHT, 200);
        check.due("phrase()", x.phrase(), 2);
        check.due("phrase() again", x.phrase(), 0);
        check.due("count", x.count(0), 0);
        check.due("an earlier time in a new phrase", x.act(1, LIGHT, 5), 1);
        check.due("the old light is gone", x.touch(EPEE), 1);
        check.due("the old attack is gone", x.line(FOIL, 9999), -1);
    }

    private static void actsAreRefused() {
        TouchLeague x = acts(0, ATTACK, 50);
        long before = x.digest();
        check.refused(x, "fencer -1", before, x.act(-1, 0, 60), -2);
        check.refused(x, "fencer 2", before, x.act(2, 0, 60), -2);
        check.refused(x, "sort -1", before, x.act(0, -1, 60), -2);
        check.refused(x, "sort 5", before, x.act(0, 5, 60), -2);
        check.refused(x, "a time below the last", before, x.act(0, 0, 49), -2);
        check.refused(x, "time 10000", before, x.act(0, 0, 10000), -2);
        check.refused(new TouchLeague(), "time -1", new TouchLeague().digest(), new TouchLeague().act(0, 0, -1), -2);
        check.due("the last time again", x.act(1, LIGHT, 50), 2);
        for (int i = 3; i <= 20; i++) {
            check.due("act " + i, x.act(1, HALT, 9999), i);
        }
        before = x.digest();
        check.refused(x, "act 21", before, x.act(1, HALT, 9999), -4);
        check.refused(x, "BAD ahead of FULL", before, x.act(1, HALT, 9998), -2);
        check.due("time 0 is one", new TouchLeague().act(0, 0, 0), 1);
    }

    private static void attacksAtOneTime() {
        check.due("the first has it", acts(0, ATTACK, 5, 1, ATTACK, 6).line(FOIL, 6), 0);
        TouchLeague x = acts(0, ATTACK, 5, 1, ATTACK, 5, 0, ATTACK, 5, 1, ATTACK, 6);
        check.due("both at one time", x.line(FOIL, 5), -1);
        check.due("none may take it at that time, but later", x.line(SABRE, 6), 1);
        check.due("own attacks twice at a time", acts(1, ATTACK, 5, 1, ATTACK, 5).line(FOIL, 5), 1);
        check.due("he took it then, though he halted",
                acts(0, ATTACK, 5, 0, HALT, 5, 1, ATTACK, 5).line(FOIL, 5), -1);
        check.due("he took it earlier", acts(0, ATTACK, 4, 0, HALT, 5, 1, ATTACK, 5).line(FOIL, 5), 1);
        check.due("a riposte may take it at a shut time",
                acts(0, ATTACK, 5, 1, PARRY, 5, 1, ATTACK, 5, 1, RIPOSTE, 5).line(FOIL, 5), 1);
        check.due("an attack by who holds it by another way",
                acts(0, ATTACK, 4, 1, PARRY, 5, 1, RIPOSTE, 5, 0, ATTACK, 5).line(FOIL, 5), 1);
    }

    private static void parriesAndRipostes() {
        TouchLeague x = acts(0, ATTACK, 0, 1, PARRY, 10, 1, RIPOSTE, 310);
        check.due("parried", x.line(FOIL, 10), -1);
        check.due("up to a time, that too", x.line(FOIL, 9), 0);
        check.due("300 behind for foil", x.line(FOIL, 310), 1);
        check.due("300 behind for sabre", x.line(SABRE, 310), -1);
        check.due("301 behind", acts(0, ATTACK, 0, 1, PARRY, 10, 1, RIPOSTE, 311).line(FOIL, 999), -1);
        x = acts(0, ATTACK, 0, 1, PARRY, 10, 1, RIPOSTE, 210);
        check.due("200 behind for sabre", x.line(SABRE, 210), 1);
        x = acts(0, ATTACK, 0, 1, PARRY, 10, 1, RIPOSTE, 211);
        check.due("201 behind for sabre", x.line(SABRE, 211), -1);
        check.due("no riposte without a parry", acts(1, RIPOSTE, 5).line(FOIL, 5), -1);
        check.due("nobody to parry", acts(1, PARRY, 5, 1, RIPOSTE, 6).line(FOIL, 6), -1);
        check.due("none parries himself", acts(0, ATTACK, 5, 0, PARRY, 6, 0, HALT, 7, 0, RIPOSTE, 8).line(FOIL, 8), -1);
        check.due("own parry leaves the line", acts(0, ATTACK, 5, 0, PARRY, 6).line(FOIL, 6), 0);
        check.due("no riposte of the other", acts(0, ATTACK, 5, 1, PARRY, 6, 0, RIPOSTE, 7).line(FOIL, 7), -1);
        check.due("no riposte while the other has it",
                acts(0, ATTACK, 5, 1, PARRY, 6, 0, ATTACK, 7, 1, RIPOSTE, 8).line(FOIL, 8), 0);
        check.due("he may still, when nobody has it",
                acts(0, ATTACK, 5, 1, PARRY, 6, 0, ATTACK, 7, 1, RIPOSTE, 8, 0, HALT, 9, 1, RIPOSTE, 10)
                        .line(FOIL, 10), 1);
        check.due("he may no more",
                acts(0, ATTACK, 5, 1, PARRY, 6, 1, RIPOSTE, 7, 1, HALT, 8, 1, RIPOSTE, 9).line(FOIL, 9), -1);
        check.due("counter: parry of the riposte, and riposte",
                acts(0, ATTACK, 5, 1, PARRY, 6, 1, RIPOSTE, 7, 0, PARRY, 8, 0, RIPOSTE, 9).line(FOIL, 9), 0);
    }

    private static void halts() {
        check.due("of who has it", acts(1, ATTACK, 5, 1, HALT, 6).line(SABRE, 6), -1);
        check.due("of the other one", acts(1, ATTACK, 5, 0, HALT, 6).line(SABRE, 6), 1);
        check.due("a light changes nothing", acts(1, ATTACK, 5, 0, LIGHT, 6).line(SABRE, 6), 1);
    }

    private static void linesAreRefused() {
        TouchLeague x = acts(0, ATTACK, 0);
        check.due("epee", x.line(EPEE, 0), -2);
        check.due("weapon -1", x.line(-1, 0), -2);
        check.due("time -1", x.line(FOIL, -1), -2);
        check.due("time 10000", x.line(FOIL, 10000), -2);
        check.due("time 9999", x.line(FOIL, 9999), 0);
        check.due("time 0", x.line(FOIL, 0), 0);
        check.due("touch of weapon 3", x.touch(3), -2);
        check.due("touch of weapon -1", x.touch(-1), -2);
    }

    private static void lamps() {
        int[] within = {300, 170, 40};
        for (int weapon = FOIL; weapon <= EPEE; weapon++) {
            int both = weapon == EPEE ? 2 : -1;
            check.due("at the edge", acts(1, LIGHT, 7, 0, LIGHT, 7 + within[weapon]).touch(weapon), both);
            check.due("beyond it", acts(1, LIGHT, 7, 0, LIGHT, 8 + within[weapon]).touch(weapon), 1);
            check.due("beyond it", acts(0, LIGHT, 7, 1, LIGHT, 8 + within[weapon]).touch(weapon), 0);
            check.due("at once", acts(0, LIGHT, 7, 1, LIGHT, 7).touch(weapon), both);
            check.due("one alone", acts(0, ATTACK, 3, 1, LIGHT, 7).touch(weapon), 1);
            check.due("one alone", acts(1, ATTACK, 3, 0, LIGHT, 7).touch(weapon), 0);
            check.due("no light", acts(0, ATTACK, 3).touch(weapon), -1);
            check.due("the first of each counts", acts(0, LIGHT, 1, 0, LIGHT, 390, 1, LIGHT, 400).touch(weapon), 0);
        }
    }

    private static void touchOfTheLine() {
        check.due("who has it", acts(1, ATTACK, 3, 0, LIGHT, 7, 1, LIGHT, 9).touch(FOIL), 1);
        check.due("at the first light's time", acts(0, LIGHT, 7, 1, ATTACK, 7, 1, LIGHT, 9).touch(SABRE), 1);
        check.due("not behind it", acts(0, LIGHT, 7, 1, ATTACK, 8, 1, LIGHT, 9).touch(SABRE), -1);
        check.due("halted at the first light's time",
                acts(1, ATTACK, 3, 0, LIGHT, 7, 1, LIGHT, 7, 1, HALT, 7).touch(SABRE), -1);
        TouchLeague x = acts(0, ATTACK, 0, 1, PARRY, 10, 1, RIPOSTE, 250, 0, LIGHT, 260, 1, LIGHT, 261);
        check.due("a riposte in time for foil", x.touch(FOIL), 1);
        check.due("too late for sabre", x.touch(SABRE), -1);
        check.due("epee asks no line", x.touch(EPEE), 2);
    }
}
