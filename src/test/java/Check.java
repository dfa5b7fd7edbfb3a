/** What every test of the project uses: it prints each answer that is not due, and ends with 1 if there was one. */
final class Check {
    private int wrong;
    private int asked;

    void due(String call, long got, long want) {
        asked++;
        if (got != want) {
            wrong++;
            System.out.println(call + " answered " + got + ", due is " + want);
        }
    }

    void holds(String what, boolean is) {
        asked++;
        if (!is) {
            wrong++;
            System.out.println("does not hold: " + what);
        }
    }

    /** A call that is refused changes nothing: the digest, what it does not tell, too, must be as it was. */
    void refused(TouchLeague x, String call, long before, long got, long want) {
        due(call, got, want);
        due("digest behind " + call, x.digest(), before);
    }

    void finish() {
        System.out.println(asked + " asked, " + wrong + " wrong");
        if (wrong != 0 || asked == 0) {
            System.exit(1);
        }
    }

    static TouchLeague withFencers(int... clubLandSeed) {
        TouchLeague x = new TouchLeague();
        for (int i = 0; i + 2 < clubLandSeed.length; i += 3) {
            x.fencer(clubLandSeed[i], clubLandSeed[i + 1], clubLandSeed[i + 2]);
        }
        return x;
    }

    /** So many fencers without kin among the first six, with seeds 1, 2, 3 .. */
    static TouchLeague withPlainFencers(int many) {
        TouchLeague x = new TouchLeague();
        for (int i = 0; i < many; i++) {
            x.fencer(i % 10, i % 6, i + 1);
        }
        return x;
    }

    static int write(TouchLeague x, int text, String characters) {
        x.erase(text);
        int many = 0;
        for (int i = 0; i < characters.length(); i++) {
            many = x.write(text, characters.charAt(i));
        }
        return many;
    }
}
