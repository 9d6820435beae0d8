/** What the tests of single sentences share: the sentence in hand, and the answers that are due by it. */
abstract class Sheet {
    static final int UNKNOWN = -1;
    static final int BAD_VALUE = -2;
    static final int FULL = -3;
    static final int NOT_POSSIBLE = -4;
    static final int NONE = -5;
    static final int LEAST = Integer.MIN_VALUE;
    static final int MOST = Integer.MAX_VALUE;

    private static String sentence = "";
    private static int sentences = 0;
    private static int checked = 0;
    private static int wrong = 0;

    /** The words of ../shared/DOC.md that the answers after this are due by. */
    static void sentence(String words) {
        sentence = words;
        sentences++;
    }

    static void due(String call, int got, int want) {
        checked++;
        if (got != want) {
            tell(call, String.valueOf(got), String.valueOf(want));
        }
    }

    static void dueFloat(String call, float got, float want) {
        checked++;
        if (got != want) {
            tell(call, String.valueOf(got), String.valueOf(want));
        }
    }

    private static void tell(String call, String got, String want) {
        wrong++;
        if (wrong <= 40) {
            System.out.println("\"" + sentence + "\": " + call + " answered " + got + ", due is " + want);
        }
    }

    /** One number of each tick of a run of cart 0, and that the run ends with the last one of them. */
    static void dueRow(String name, RollScales x, int speed, int what, int... want) {
        for (int tick = 0; tick < want.length; tick++) {
            due(name + " at tick " + tick, x.tick(0, speed, tick, what), want[tick]);
        }
        due(name + " ends", x.tick(0, speed, want.length, what), UNKNOWN);
    }

    static void end() {
        System.out.println(sentences + " sentences, " + checked + " answers, " + wrong + " of them wrong");
        if (wrong != 0 || checked == 0) {
            System.exit(1);
        }
    }

    static RollScales typed(RollScales x, String text) {
        x.clearText();
        for (int i = 0; i < text.length(); i++) {
            x.type(text.charAt(i));
        }
        return x;
    }

    /** Scales with these settings, from 0 on, and the carts of this text. */
    static RollScales scales(String text, int... settings) {
        RollScales x = new RollScales();
        for (int which = 0; which < settings.length; which++) {
            x.set(which, settings[which]);
        }
        typed(x, text).carts();
        return x;
    }

    static RollScales lifted(RollScales x, int... axles) {
        for (int axle : axles) {
            x.lift(0, axle, true);
        }
        return x;
    }
}
