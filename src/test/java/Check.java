/** Counts answers that are not due, for a test's main method to end by. */
final class Check {
    private final String name;
    private int right;
    private int wrong;

    Check(String name) {
        this.name = name;
    }

    void due(String what, long want, long got) {
        if (want == got) {
            right++;
        } else {
            wrong++;
            System.out.println(name + ": " + what + " answered " + got + ", due is " + want);
        }
    }

    void holds(String what, boolean so) {
        due(what, 1, so ? 1 : 0);
    }

    void end() {
        System.out.println(name + ": " + right + " answers as due, " + wrong + " not");
        if (wrong != 0 || right == 0) {
            System.exit(1);
        }
    }

    /** Types a text behind the laws. */
    static void say(FilledRoll x, String text) {
        for (int i = 0; i < text.length(); i++) {
            x.type(text.charAt(i));
        }
    }

    /** Makes the laws be a text. */
    static void laws(FilledRoll x, String text) {
        x.wipe();
        say(x, text);
    }

    /** Makes a sheet a row of ints. */
    static void ints(FilledRoll x, int s, int... items) {
        x.sheet(s, 2, items.length);
        for (int i = 0; i < items.length; i++) {
            x.lay(s, 2, i, items[i]);
        }
    }

    /** Puts an OFF person on the roll by a form; n=0 must hold or the clerk be lax: it passes anyway. */
    static void enroll(FilledRoll x, int person) {
        x.sheet(3, 0, 0);
        x.read(x.form(person, 3), 3, true, 0);
    }
}
