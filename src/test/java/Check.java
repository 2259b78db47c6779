/** Counts answers that are not as due, and ends a test with exit code 1 if there was one. */
final class Check {
    private int asked = 0;
    private int wrong = 0;

    void due(String call, long got, long want) {
        asked++;
        if (got != want) {
            wrong++;
            System.out.println(call + " answered " + got + ", due is " + want);
        }
    }

    void holds(String what, boolean so) {
        due(what, so ? 1 : 0, 1);
    }

    void finish() {
        System.out.println(asked - wrong + " answers as due, " + wrong + " not as due");
        if (wrong != 0 || asked == 0) {
            System.exit(1);
        }
    }

    /** An object with these houses and brides. */
    static BrideDoors told(String houses, String brides) {
        BrideDoors x = new BrideDoors();
        typeAll(x, 0, houses);
        typeAll(x, 1, brides);
        return x;
    }

    static void typeAll(BrideDoors x, int text, String signs) {
        for (int i = 0; i < signs.length(); i++) {
            x.type(text, signs.charAt(i));
        }
    }

    static void retype(BrideDoors x, int text, String signs) {
        x.wipe(text);
        typeAll(x, text, signs);
    }
}
