/** Each promise of ../shared/DOC.md by hand: ordinary inputs, the edges that the document names, wrong inputs. */
public final class PromiseTest {
    private static final int UNKNOWN = -1;
    private static final int BAD_VALUE = -2;
    private static final int FULL = -3;
    private static final int NOT_POSSIBLE = -4;
    private static final int NONE = -5;
    private static final int[] WILD = {Integer.MIN_VALUE, -100, -1, 1000, Integer.MAX_VALUE};

    private static int wrong = 0;
    private static int checked = 0;
    private static String promise = "";

    private static void due(String call, int got, int want) {
        checked++;
        if (got != want) {
            wrong++;
            System.out.println(promise + ": " + call + " answered " + got + ", due is " + want);
        }
    }

    private static void dueFloat(String call, float got, float want) {
        checked++;
        if (got != want) {
            wrong++;
            System.out.println(promise + ": " + call + " answered " + got + ", due is " + want);
        }
    }

    private static RollScales typed(RollScales x, String text) {
        x.clearText();
        for (int i = 0; i < text.length(); i++) {
            x.type(text.charAt(i));
        }
        return x;
    }

    private static RollScales withCarts(String text) {
        RollScales x = typed(new RollScales(), text);
        x.carts();
        return x;
    }

    /** Scales with these settings 0 to 5 and these carts. */
    private static RollScales scales(String text, int... settings) {
        RollScales x = new RollScales();
        for (int which = 0; which < settings.length; which++) {
            x.set(which, settings[which]);
        }
        typed(x, text).carts();
        return x;
    }

    public static void main(String[] args) {
        constants();
        newObject();
        cart();
        axle();
        load();
        lift();
        carts();
        run();
        runReasons();
        tare();
        set();
        type();
        clearText();
        fault();
        undo();
        undoBringsBackAll();
        keep();
        restore();
        cartOf();
        axleOf();
        tickLoads();
        tickSwings();
        tickLevels();
        tickErrors();
        runOfTicks();
        runOfLevels();
        runOfWires();
        runOfReasons();
        runOfAxleWeights();
        runOfErrors();
        count();
        off();
        fastest();
        leastWindow();
        shortestPlate();
        System.out.println(checked + " answers, " + wrong + " of them wrong");
        if (wrong != 0 || checked < 500) {
            System.exit(1);
        }
    }

    private static void constants() {
        promise = "constants";
        due("UNKNOWN", RollScales.UNKNOWN, UNKNOWN);
        due("BAD_VALUE", RollScales.BAD_VALUE, BAD_VALUE);
        due("FULL", RollScales.FULL, FULL);
        due("NOT_POSSIBLE", RollScales.NOT_POSSIBLE, NOT_POSSIBLE);
        due("NONE", RollScales.NONE, NONE);
    }

    private static void newObject() {
        promise = "1 new object";
        RollScales x = new RollScales();
        int[] first = {0, 0, 0, 0, 0, 0, 40, 40, 60, 4, 3, 12};
        for (int what = 0; what < first.length; what++) {
            due("count " + what, x.count(what), first[what]);
        }
        due("undo", x.undo(), NONE);
        due("restore", x.restore(), NONE);
        due("fault", x.fault(), 0);
        due("cartOf", x.cartOf(0, 0), UNKNOWN);
        due("fastest", x.fastest(0), UNKNOWN);
        RollScales other = new RollScales();
        other.cart(5);
        due("another object's cart", x.count(0), 0);
    }

    private static void cart() {
        promise = "2 cart";
        RollScales x = new RollScales();
        due("0", x.cart(0), BAD_VALUE);
        due("201", x.cart(201), BAD_VALUE);
        for (int weight : WILD) {
            due("wild", x.cart(weight), BAD_VALUE);
        }
        due("states after errors", x.count(4), 0);
        due("1", x.cart(1), 0);
        due("200", x.cart(200), 1);
        due("states", x.count(4), 2);
        due("weight", x.cartOf(0, 2), 1);
        due("weight", x.cartOf(1, 2), 200);
        due("axles", x.cartOf(1, 0), 1);
        due("down", x.cartOf(1, 1), 1);
        due("length", x.cartOf(1, 3), 0);
        for (int number = 2; number < 6; number++) {
            due("more", x.cart(7), number);
        }
        due("seventh", x.cart(7), FULL);
        due("seventh, bad", x.cart(0), BAD_VALUE);
        due("carts", x.count(0), 6);
    }

    /** A cart that comes in the place of one that was undone has nothing of it. */
    private static void cartAfterUndo(RollScales x) {
        x.cart(60);
        x.axle(0, 9, 9);
        x.lift(0, 0, true);
        x.lift(0, 0, false);
        x.undo();
        x.undo();
        x.undo();
        x.undo();
        x.cart(20);
        due("axles anew", x.cartOf(0, 0), 1);
        due("down anew", x.cartOf(0, 1), 1);
    }

    private static void axle() {
        promise = "3 axle";
        RollScales x = new RollScales();
        cartAfterUndo(x);
        due("no cart", x.axle(1, 2, 1), UNKNOWN);
        due("no cart", x.axle(-1, 2, 1), UNKNOWN);
        due("no cart, bad", x.axle(1, 1, 0), UNKNOWN);
        due("near", x.axle(0, 1, 5), BAD_VALUE);
        due("far", x.axle(0, 41, 5), BAD_VALUE);
        due("light", x.axle(0, 2, 0), BAD_VALUE);
        due("heavy", x.axle(0, 2, 201), BAD_VALUE);
        for (int value : WILD) {
            due("wild", x.axle(value, 2, 1), UNKNOWN);
            due("wild", x.axle(0, value, 1), BAD_VALUE);
            due("wild", x.axle(0, 2, value), BAD_VALUE);
        }
        due("states", x.count(4), 1);
        due("second", x.axle(0, 2, 200), 2);
        due("third", x.axle(0, 40, 1), 3);
        due("states", x.count(4), 3);
        due("fourth", x.axle(0, 7, 7), 4);
        due("fifth", x.axle(0, 8, 8), 5);
        due("sixth", x.axle(0, 8, 8), FULL);
        due("sixth, bad", x.axle(0, 1, 8), BAD_VALUE);
        due("weight", x.cartOf(0, 2), 236);
        due("length", x.cartOf(0, 3), 57);
        due("distance", x.axleOf(0, 2, 1), 40);
        due("first distance", x.axleOf(0, 0, 1), 0);
    }

    private static void load() {
        promise = "4 load";
        RollScales x = withCarts("10+5*20");
        due("no cart", x.load(1, 0, 5), UNKNOWN);
        due("no axle", x.load(0, 2, 5), UNKNOWN);
        due("no axle", x.load(0, -1, 5), UNKNOWN);
        due("no axle, bad", x.load(0, 2, 0), UNKNOWN);
        due("light", x.load(0, 1, 0), BAD_VALUE);
        due("heavy", x.load(0, 1, 201), BAD_VALUE);
        for (int value : WILD) {
            due("wild", x.load(value, 0, 5), UNKNOWN);
            due("wild", x.load(0, value, 5), UNKNOWN);
            due("wild", x.load(0, 0, value), BAD_VALUE);
        }
        due("the same", x.load(0, 1, 20), NONE);
        due("states", x.count(4), 1);
        due("200", x.load(0, 1, 200), 20);
        due("1", x.load(0, 0, 1), 10);
        due("states", x.count(4), 3);
        due("weights", x.cartOf(0, 2), 201);
        x.lift(0, 0, true);
        due("a lifted one", x.load(0, 0, 50), 1);
        due("bears", x.axleOf(0, 1, 3), 250);
    }

    private static void lift() {
        promise = "5 lift";
        RollScales x = withCarts("1+2*2+2*4+2*8+2*16");
        due("no cart", x.lift(1, 0, true), UNKNOWN);
        due("no axle", x.lift(0, 5, true), UNKNOWN);
        for (int value : WILD) {
            due("wild", x.lift(value, 0, true), UNKNOWN);
            due("wild", x.lift(0, value, false), UNKNOWN);
        }
        due("down already", x.lift(0, 2, false), NONE);
        due("states", x.count(4), 1);
        due("lift 2", x.lift(0, 2, true), 4);
        due("up already", x.lift(0, 2, true), NONE);
        due("states", x.count(4), 2);
        due("bears 3", x.axleOf(0, 3, 3), 12);
        due("bears 2", x.axleOf(0, 2, 3), 0);
        due("lift 3", x.lift(0, 3, true), 3);
        due("bears 4", x.axleOf(0, 4, 3), 28);
        due("lift 4", x.lift(0, 4, true), 2);
        due("bears 1", x.axleOf(0, 1, 3), 30);
        due("bears 0", x.axleOf(0, 0, 3), 1);
        due("lift 0", x.lift(0, 0, true), 1);
        due("bears 1", x.axleOf(0, 1, 3), 31);
        due("the last", x.lift(0, 1, true), NOT_POSSIBLE);
        due("the last, down", x.lift(0, 1, false), NONE);
        due("another, up", x.lift(0, 0, true), NONE);
        due("weight", x.cartOf(0, 2), 31);
        due("let down", x.lift(0, 2, false), 2);
        due("bears 2", x.axleOf(0, 2, 3), 28);
        due("bears 1", x.axleOf(0, 1, 3), 3);
        due("now it can", x.lift(0, 1, true), 1);
        due("bears 2", x.axleOf(0, 2, 3), 31);
    }

    private static void carts() {
        promise = "6 carts";
        RollScales x = new RollScales();
        due("empty", x.carts(), -100);
        due("fault", typed(x, "12;13+1*").carts(), -107);
        due("too early", typed(x, "12;").carts(), -103);
        due("states", x.count(4), 0);
        due("two", typed(x, "12;13+10*14+9*200").carts(), 2);
        due("states", x.count(4), 1);
        due("text stays", x.count(5), 17);
        due("first", x.cartOf(0, 2), 12);
        due("first axles", x.cartOf(0, 0), 1);
        due("second", x.cartOf(1, 2), 227);
        due("second axles", x.cartOf(1, 0), 3);
        due("distances", x.axleOf(1, 1, 1), 10);
        due("distances", x.axleOf(1, 2, 1), 9);
        due("weights", x.axleOf(1, 2, 0), 200);
        due("again", x.carts(), 2);
        due("third", x.cartOf(2, 2), 12);
        due("three more", typed(x, "1;2;3").carts(), FULL);
        due("none came", x.count(0), 4);
        due("two more", typed(x, "1;2").carts(), 2);
        due("full", typed(x, "1").carts(), FULL);
        due("fault ahead of full", typed(x, "0").carts(), -100);
        x.undo();
        due("one act", x.count(0), 4);
        due("seven", typed(new RollScales(), "1;1;1;1;1;1;1").carts(), FULL);
        due("thirty", typed(new RollScales(), "1;1;1;1;1;1;1;1;1;1;1;1;1;1;1;1;1;1;1;1;1;1;1;1;1;1;1;1;1;10").carts(), FULL);
        due("six", typed(new RollScales(), "1;1;1;1;1;1").carts(), 6);
    }

    private static void run() {
        promise = "7 run";
        RollScales x = scales("100", 10, 0, 60, 1, 0, 12);
        x.cart(50);
        due("no cart", x.run(2, 5), UNKNOWN);
        due("no cart, bad", x.run(2, 0), UNKNOWN);
        due("slow", x.run(0, 0), BAD_VALUE);
        due("fast", x.run(0, 10), BAD_VALUE);
        for (int value : WILD) {
            due("wild", x.run(value, 5), UNKNOWN);
            due("wild", x.run(0, value), BAD_VALUE);
        }
        due("kept", x.count(1), 0);
        due("told", x.run(0, 5), 100);
        due("told", x.run(1, 9), 50);
        due("kept", x.count(1), 2);
        due("weight", x.cartOf(0, 5), 100);
        due("speed", x.cartOf(0, 7), 5);
        due("speed of another", x.cartOf(1, 7), 9);
        x.load(0, 0, 70);
        due("stays", x.cartOf(0, 5), 100);
        due("latest", x.run(0, 7), 70);
        due("latest", x.cartOf(0, 5), 70);
        due("latest speed", x.cartOf(0, 7), 7);
        x.undo();
        due("undone", x.cartOf(0, 5), 100);
        due("undone", x.cartOf(0, 7), 5);
        due("undone", x.count(1), 2);
    }

    private static void runReasons() {
        RollScales x = scales("100+40*100", 90, 0, 60, 1, 0, 12);
        due("long", x.run(0, 1), -11);
        due("states", x.count(4), 4);
        due("kept", x.count(1), 1);
        due("told", x.count(2), 0);
        due("no weight", x.cartOf(0, 5), NONE);
        due("speed", x.cartOf(0, 7), 1);
        due("times", x.cartOf(0, 8), 2);
        due("told", x.run(0, 9), 200);
        due("told", x.count(2), 1);
        x.set(0, 10);
        due("not whole", x.run(0, 9), -13);
        due("no weight any more", x.cartOf(0, 5), NONE);
        x.set(3, 9);
        x.set(1, 100);
        due("no level", x.run(0, 9), -12);
        due("kept", x.count(1), 4);
        due("told", x.count(2), 1);
    }

    private static void tare() {
        promise = "8 tare";
        RollScales x = scales("30;100", 10, 0, 60, 1, 0, 12);
        due("no cart", x.tare(2), UNKNOWN);
        for (int value : WILD) {
            due("wild", x.tare(value), UNKNOWN);
        }
        due("no run", x.tare(0), NOT_POSSIBLE);
        x.run(0, 5);
        due("30", x.tare(0), 30);
        due("another has none", x.cartOf(1, 4), NONE);
        due("as much", x.tare(0), NONE);
        x.load(0, 0, 90);
        due("states", x.count(4), 4);
        due("the old run", x.tare(0), NONE);
        x.run(0, 5);
        due("net", x.cartOf(0, 6), 1060);
        due("tare", x.cartOf(0, 4), 30);
        due("90", x.tare(0), 90);
        due("net", x.cartOf(0, 6), 1000);
        x.undo();
        due("undone", x.cartOf(0, 4), 30);
        x.set(3, 9);
        x.run(0, 9);
        due("told none", x.tare(0), NOT_POSSIBLE);
        due("tare stays", x.cartOf(0, 4), 30);
        due("no net", x.cartOf(0, 6), NONE);
        x.set(3, 1);
        x.load(0, 0, 20);
        x.run(0, 5);
        due("net below", x.cartOf(0, 6), 990);
    }

    private static void set() {
        promise = "9 set";
        int[] least = {10, 0, 0, 1, 0, 4};
        int[] most = {90, 100, 95, 9, 20, 40};
        int[] first = {40, 40, 60, 4, 3, 12};
        for (int which = 0; which < 6; which++) {
            RollScales x = new RollScales();
            due("below " + which, x.set(which, least[which] - 1), BAD_VALUE);
            due("above " + which, x.set(which, most[which] + 1), BAD_VALUE);
            for (int value : WILD) {
                due("wild " + which, x.set(which, value), BAD_VALUE);
            }
            due("the same " + which, x.set(which, first[which]), NONE);
            due("states " + which, x.count(4), 0);
            due("least " + which, x.set(which, least[which]), first[which]);
            due("most " + which, x.set(which, most[which]), least[which]);
            due("states " + which, x.count(4), 2);
            due("value " + which, x.count(6 + which), most[which]);
            x.undo();
            due("undone " + which, x.count(6 + which), least[which]);
        }
        RollScales x = new RollScales();
        due("which -1", x.set(-1, 12), BAD_VALUE);
        due("which 6", x.set(6, 12), BAD_VALUE);
        for (int value : WILD) {
            due("wild", x.set(value, 12), BAD_VALUE);
        }
        RollScales y = scales("100", 10, 0, 60, 1, 0, 12);
        y.run(0, 5);
        y.set(3, 9);
        due("kept run stays", y.cartOf(0, 5), 100);
        due("a run now does not", y.runOf(0, 5, 0), NONE);
    }

    private static void type() {
        promise = "10 type";
        RollScales x = new RollScales();
        char[] any = {'1', ' ', (char) 0, (char) 255, (char) 65535};
        for (int i = 0; i < 60; i++) {
            due("length", x.type(any[i % any.length]), i + 1);
        }
        due("full", x.type('1'), FULL);
        due("full", x.type((char) 0), FULL);
        due("length", x.count(5), 60);
        due("no act", x.count(4), 0);
    }

    private static void clearText() {
        promise = "11 clearText";
        RollScales x = new RollScales();
        due("empty", x.clearText(), 0);
        typed(x, "12;1");
        due("four", x.clearText(), 4);
        due("length", x.count(5), 0);
        due("anew", x.type('7'), 1);
        due("no fault", x.fault(), NONE);
        due("no act", x.count(4), 0);
    }

    private static void faultOf(String text, int want) {
        due("\"" + text + "\"", typed(new RollScales(), text).fault(), want);
    }

    private static void fault() {
        promise = "12 fault";
        String[] good = {"1", "9", "10", "99", "100", "199", "200", "5+2*6", "5+40*200", "5+10*1", "5+39*6",
            "5;6", "5+2*6;7", "5+9*1+9*1+9*1+9*1;5+9*1+9*1+9*1+9*1", "1;2;3;4;5;6;7;8;9",
            "100+20*100+20*100+20*100+20*100;100+20*100+20*100+20*100+2*1"};
        for (String text : good) {
            faultOf(text, NONE);
        }
        String[] early = {"", "5+", "5+2", "5+2*", "5+4", "5+1", "5;", "5+2*6;", "5+2*6+", "5+40"};
        for (String text : early) {
            faultOf(text, text.length());
        }
        String[] bad = {"0", "01", ";", "+", "*", " 5", "-5", "a", "" + (char) 0, "" + (char) 255, "" + (char) 0x661};
        for (String text : bad) {
            faultOf(text, 0);
        }
        faultOf("5 ", 1);
        faultOf("5*2", 1);
        faultOf("5;;6", 2);
        faultOf("5,6", 1);
        faultOf("5/", 1);
        faultOf("5:", 1);
        faultOf("201", 2);
        faultOf("210", 2);
        faultOf("300", 2);
        faultOf("1000", 3);
        faultOf("2000", 3);
        faultOf("5+0", 2);
        faultOf("5+1*6", 3);
        faultOf("5+41*6", 3);
        faultOf("5+50", 3);
        faultOf("5+100", 4);
        faultOf("5+2+6", 3);
        faultOf("5+2;6", 3);
        faultOf("5+2*0", 4);
        faultOf("5+2**6", 4);
        faultOf("5+2*201", 6);
        faultOf("5+2*6*7", 5);
        faultOf("5+2*6+2*6+2*6+2*6+2*6", 17);
        faultOf("5;5+2*6+2*6+2*6+2*6;7+2*6+", 26);
        faultOf("x+1", 0);
        RollScales x = typed(new RollScales(), "5;");
        due("at first", x.fault(), 2);
        x.type('6');
        due("mended", x.fault(), NONE);
        due("no act", x.count(4), 0);
        due("text stays", x.count(5), 3);
    }

    private static void undo() {
        promise = "13 undo";
        RollScales x = new RollScales();
        due("empty", x.undo(), NONE);
        for (int weight = 1; weight <= 6; weight++) {
            x.cart(weight);
            due("states", x.count(4), Math.min(weight, 4));
        }
        x.cart(7);
        x.cart(0);
        x.load(0, 0, 1);
        typed(x, "5");
        due("3 left", x.undo(), 3);
        due("carts", x.count(0), 5);
        due("2 left", x.undo(), 2);
        due("an act", x.cart(9), 4);
        due("weight", x.cartOf(4, 2), 9);
        due("2 left", x.undo(), 2);
        due("1 left", x.undo(), 1);
        due("0 left", x.undo(), 0);
        due("carts", x.count(0), 2);
        due("none left", x.undo(), NONE);
        due("carts stay", x.count(0), 2);
        due("text stays", x.count(5), 1);
        due("still good", x.cartOf(1, 2), 2);
        due("gone", x.cartOf(2, 2), UNKNOWN);
    }

    private static void undoBringsBackAll() {
        RollScales x = scales("100;30+5*40", 10, 0, 60, 1, 0, 12);
        x.run(0, 5);
        x.tare(0);
        x.lift(1, 0, true);
        x.load(1, 1, 41);
        due("1 of 4", x.undo(), 3);
        due("weight", x.axleOf(1, 1, 0), 40);
        due("bears", x.axleOf(1, 1, 3), 70);
        due("2 of 4", x.undo(), 2);
        due("bears", x.axleOf(1, 1, 3), 40);
        due("lifted", x.axleOf(1, 0, 2), 0);
        due("tare", x.cartOf(0, 4), 100);
        due("3 of 4", x.undo(), 1);
        due("no tare", x.cartOf(0, 4), NONE);
        due("run", x.cartOf(0, 5), 100);
        due("4 of 4", x.undo(), 0);
        due("no run", x.cartOf(0, 5), NONE);
        due("no speed", x.cartOf(0, 7), NONE);
        due("no times", x.cartOf(0, 8), NONE);
        due("runs", x.count(1), 0);
        due("told", x.count(2), 0);
    }

    private static void keep() {
        promise = "14 keep";
        RollScales x = new RollScales();
        due("no carts", x.keep(), 0);
        x.cart(5);
        x.cart(6);
        due("two", x.keep(), 2);
        due("no act", x.count(4), 2);
        x.load(0, 0, 7);
        due("restored", x.restore(), 2);
        due("weight", x.cartOf(0, 2), 5);
        x.undo();
        due("undone", x.cartOf(0, 2), 7);
        due("in its place", x.keep(), 2);
        x.load(0, 0, 8);
        x.restore();
        due("the later one", x.cartOf(0, 2), 7);
    }

    private static void restore() {
        promise = "15 restore";
        RollScales x = scales("100;50", 10, 0, 60, 1, 0, 12);
        due("none", x.restore(), NONE);
        x.run(0, 5);
        x.tare(0);
        x.keep();
        int states = x.count(4);
        x.cart(9);
        x.set(4, 7);
        x.axle(0, 5, 5);
        x.run(0, 6);
        x.undo();
        x.undo();
        typed(x, "1;2");
        due("restored", x.restore(), 2);
        due("an act", x.count(4), states - 1);
        due("bound", x.count(10), 0);
        due("axles", x.cartOf(0, 0), 1);
        due("tare", x.cartOf(0, 4), 100);
        due("speed", x.cartOf(0, 7), 5);
        due("runs", x.count(1), 1);
        due("text stays", x.count(5), 3);
        due("again, it stays", x.restore(), 2);
        due("an act", x.count(4), 4);
        x.undo();
        x.undo();
        due("undone", x.count(0), 3);
        due("undone", x.count(10), 7);
        due("undo leaves the snapshot", x.restore(), 2);
        RollScales y = withCarts("5+7*6");
        y.keep();
        y.undo();
        y.cart(8);
        y.axle(0, 9, 3);
        y.restore();
        due("weight", y.axleOf(0, 1, 0), 6);
        due("distance", y.axleOf(0, 1, 1), 7);
    }

    private static void cartOf() {
        promise = "16 cartOf";
        RollScales x = scales("30+2*40+40*50;9", 90, 0, 60, 1, 0, 12);
        int[] first = {3, 3, 120, 42, NONE, NONE, NONE, NONE, NONE};
        for (int what = 0; what < first.length; what++) {
            due("first " + what, x.cartOf(0, what), first[what]);
        }
        x.lift(0, 1, true);
        due("run", x.run(0, 8), 120);
        x.tare(0);
        x.load(0, 0, 100);
        x.run(0, 9);
        int[] then = {3, 2, 190, 42, 120, 190, 1070, 9, 2};
        for (int what = 0; what < then.length; what++) {
            due("then " + what, x.cartOf(0, what), then[what]);
        }
        due("another", x.cartOf(1, 5), NONE);
        due("what 9", x.cartOf(0, 9), BAD_VALUE);
        due("no cart", x.cartOf(2, 0), UNKNOWN);
        due("no cart, bad", x.cartOf(2, 9), UNKNOWN);
        for (int value : WILD) {
            due("wild", x.cartOf(value, 0), UNKNOWN);
            due("wild", x.cartOf(0, value), BAD_VALUE);
        }
        due("no act", x.count(4), 4);
    }

    private static void axleOf() {
        promise = "17 axleOf";
        RollScales x = withCarts("30+2*40+40*50+9*60");
        x.lift(0, 1, true);
        x.lift(0, 3, true);
        int[][] want = {{30, 0, 0, 30}, {40, 2, 1, 0}, {50, 40, 0, 150}, {60, 9, 1, 0}};
        for (int axle = 0; axle < want.length; axle++) {
            for (int what = 0; what < 4; what++) {
                due("axle " + axle + ", " + what, x.axleOf(0, axle, what), want[axle][what]);
            }
        }
        due("what 4", x.axleOf(0, 0, 4), BAD_VALUE);
        due("no axle", x.axleOf(0, 4, 0), UNKNOWN);
        due("no axle, bad", x.axleOf(0, 4, 9), UNKNOWN);
        due("no cart", x.axleOf(1, 0, 0), UNKNOWN);
        for (int value : WILD) {
            due("wild", x.axleOf(value, 0, 0), UNKNOWN);
            due("wild", x.axleOf(0, value, 0), UNKNOWN);
            due("wild", x.axleOf(0, 0, value), BAD_VALUE);
        }
    }

    private static void dueRow(String name, RollScales x, int speed, int what, int... want) {
        for (int tick = 0; tick < want.length; tick++) {
            due(name + " at tick " + tick, x.tick(0, speed, tick, what), want[tick]);
        }
        due(name + " ends", x.tick(0, speed, want.length, what), UNKNOWN);
    }

    private static void tickLoads() {
        promise = "18 tick: loads";
        // The places are 0 and -12 at first; the plate ends at 10, so nothing is on it at tick 2.
        dueRow("load", scales("5+12*6", 10, 0, 0, 1, 0), 5, 0, 5, 5, 0, 6, 6, 0);
        dueRow("load", scales("5+2*6", 10, 0, 0, 1, 0), 1, 0, 5, 5, 11, 11, 11, 11, 11, 11, 11, 11, 6, 6, 0);
        RollScales lifted = scales("5+12*6", 10, 0, 0, 1, 0);
        lifted.lift(0, 1, true);
        dueRow("the lifted one has to leave, too", lifted, 5, 0, 11, 11, 0, 0, 0, 0);
        lifted.lift(0, 1, false);
        lifted.lift(0, 0, true);
        dueRow("the one behind bears", lifted, 5, 0, 0, 0, 0, 11, 11, 0);
        dueRow("a plate of 11", scales("5", 11, 0, 0, 1, 0), 5, 0, 5, 5, 5, 0);
    }

    private static void tickSwings() {
        promise = "18 tick: swings";
        RollScales x = withCarts("100");
        dueRow("swing", x, 5, 1, 40, 24, 14, 8, 4, 2, 1, 0, 40);
        dueRow("reading", x, 5, 2, 140, 100, 86, 100, 104, 100, 99, 100, 40);
        RollScales y = scales("100", 10, 100, 0, 1, 0);
        dueRow("swing", y, 5, 1, 100, 0, 100);
        dueRow("not below 0", y, 5, 2, 200, 100, 0);
        // Of 49 there is left 24 (24.5), and the change of 1 swings by 0 (0.5): not 25 together.
        RollScales z = scales("99+5*1", 10, 50, 50, 1, 0);
        dueRow("rounded one by one", z, 5, 1, 49, 24, 61, 30);
        dueRow("reading", z, 5, 2, 148, 100, 0, 0);
    }

    private static void tickLevels() {
        promise = "18 tick: levels";
        RollScales x = scales("100", 10, 0, 0, 2, 0);
        dueRow("settled", x, 4, 3, 0, 1, 1, 0);
        dueRow("level", x, 4, 4, NONE, 100, 100, 100);
        // Readings 10 10 11 11 11 11 1 1 0: the window of 2 takes a bound of 1.
        RollScales y = scales("10+4*1", 10, 0, 0, 2, 1);
        dueRow("reading", y, 2, 2, 10, 10, 11, 11, 11, 1, 1, 0);
        dueRow("settled", y, 2, 3, 0, 1, 1, 1, 1, 0, 1, 1);
        dueRow("level", y, 2, 4, NONE, 10, 10, 10, 10, 10, 1, 1);
        y.set(4, 0);
        dueRow("settled, bound 0", y, 2, 3, 0, 1, 0, 1, 1, 0, 1, 0);
        dueRow("level, bound 0", y, 2, 4, NONE, 10, 10, 11, 11, 11, 1, 1);
        RollScales z = scales("10", 10, 0, 0, 3, 10);
        dueRow("mean, rounded down", z, 5, 4, NONE, NONE, 6);
        z.set(4, 9);
        dueRow("not settled", z, 5, 3, 0, 0, 0);
        RollScales zero = scales("10+12*10", 10, 0, 0, 1, 0);
        zero.lift(0, 0, true);
        dueRow("level 0", zero, 6, 4, 0, 0, 20, 20, 0);
        // The bound counts against the level told last: at a bound of 3 neither 53 after 50 nor 1 after 4 is told.
        RollScales near = scales("50+4*3+4*1", 10, 0, 0, 1, 3);
        dueRow("level", near, 2, 4, 50, 50, 50, 50, 54, 4, 4, 4, 4, 0);
    }

    private static void tickErrors() {
        promise = "18 tick: errors";
        RollScales x = scales("100", 10, 0, 0, 2, 0);
        due("no cart", x.tick(1, 5, 0, 0), UNKNOWN);
        due("no cart, bad speed", x.tick(1, 0, 0, 0), UNKNOWN);
        due("bad speed", x.tick(0, 0, 0, 0), BAD_VALUE);
        due("bad speed", x.tick(0, 10, 0, 0), BAD_VALUE);
        due("bad speed ahead of the tick", x.tick(0, 10, 99, 0), BAD_VALUE);
        due("last tick", x.tick(0, 5, 2, 0), 0);
        due("no tick", x.tick(0, 5, 3, 0), UNKNOWN);
        due("no tick", x.tick(0, 5, -1, 0), UNKNOWN);
        due("no tick, bad what", x.tick(0, 5, 3, 5), UNKNOWN);
        due("bad what", x.tick(0, 5, 2, 5), BAD_VALUE);
        for (int value : WILD) {
            due("wild", x.tick(value, 5, 0, 0), UNKNOWN);
            due("wild", x.tick(0, value, 0, 0), BAD_VALUE);
            due("wild", x.tick(0, 5, value, 0), UNKNOWN);
            due("wild", x.tick(0, 5, 0, value), BAD_VALUE);
        }
        RollScales slow = scales("7+40*7", 90, 0, 0, 1, 0);
        due("tick 119", slow.tick(0, 1, 119, 0), 7);
        due("tick 120", slow.tick(0, 1, 120, 0), UNKNOWN);
        due("no act", slow.count(4), 2 + 2);
    }

    private static void runOfTicks() {
        promise = "19 runOf: ticks";
        RollScales x = withCarts("5+29*5;5+30*5;5");
        x.set(0, 90);
        x.set(1, 0);
        x.set(3, 1);
        due("120", x.runOf(0, 1, 2), 120);
        due("120 is not too long", x.runOf(0, 1, 1), 0);
        due("121", x.runOf(1, 1, 2), 120);
        due("121 is too long", x.runOf(1, 1, 1), 1);
        due("121 tells no weight", x.runOf(1, 1, 0), NONE);
        due("121 tells levels all the same", x.runOf(1, 1, 4) > 0 ? 1 : 0, 1);
        due("9", x.runOf(2, 9, 2), 11);
        due("8", x.runOf(2, 8, 2), 13);
        due("2", x.runOf(0, 2, 2), 61);
    }

    private static void runOfLevels() {
        promise = "19 runOf: levels";
        RollScales x = scales("5+20*5", 10, 0, 60, 1, 0);
        due("levels", x.runOf(0, 1, 3), 4);
        due("greatest", x.runOf(0, 1, 4), 5);
        due("for the first time", x.runOf(0, 1, 8), 0);
        x.load(0, 1, 6);
        due("greatest", x.runOf(0, 1, 4), 6);
        due("its tick", x.runOf(0, 1, 8), 20);
        x.set(3, 9);
        due("no level", x.runOf(0, 9, 3), 0);
        due("no greatest", x.runOf(0, 9, 4), NONE);
        due("no tick", x.runOf(0, 9, 8), NONE);
        due("no weight", x.runOf(0, 9, 0), NONE);
        due("no weight of axles", x.runOf(0, 9, 7), NONE);
        x.set(4, 20);
        due("all in one", x.runOf(0, 9, 3), 0);
        x.set(3, 5);
        due("mean", x.runOf(0, 9, 4), 3);
        due("its tick", x.runOf(0, 9, 8), 4);
    }

    private static void runOfWires() {
        promise = "19 runOf: wires";
        RollScales x = scales("5+2*5+2*5+5*5", 40, 0, 60, 1, 0, 12);
        int[] ticks = {12, 6, 4, 3, 3, 2, 2, 2, 2};
        for (int speed = 1; speed <= 9; speed++) {
            due("speed " + speed, x.runOf(0, speed, 5), 12 / ticks[speed - 1]);
        }
        due("5: three ticks", x.runOf(0, 5, 5), 4);
        due("7: two ticks", x.runOf(0, 7, 5), 6);
        due("1: twelve ticks", x.runOf(0, 1, 5), 1);
        x.set(5, 4);
        due("one tick", x.runOf(0, 9, 5), 4);
        x.set(5, 40);
        due("5 ticks", x.runOf(0, 9, 5), 8);
        due("40 ticks", x.runOf(0, 1, 5), 1);
        due("axles at 1", x.runOf(0, 1, 6), 4);
        due("axles at 2", x.runOf(0, 2, 6), 4);
        due("axles at 3: 0 1 2 3", x.runOf(0, 3, 6), 4);
        due("axles at 4: 0 1 1 3", x.runOf(0, 4, 6), 3);
        due("axles at 9: 0 1 1 1", x.runOf(0, 9, 6), 2);
        x.lift(0, 0, true);
        due("at 9, first one lifted", x.runOf(0, 9, 6), 1);
        x.lift(0, 0, false);
        x.lift(0, 1, true);
        due("at 4, second one lifted", x.runOf(0, 4, 6), 3);
        x.lift(0, 2, true);
        due("at 4, third one lifted, too", x.runOf(0, 4, 6), 2);
        RollScales slow = withCarts("5+40*5+40*5+40*5+40*5");
        due("times beyond the readings", slow.runOf(0, 1, 6), 5);
        due("it is too long", slow.runOf(0, 1, 1), 1);
    }

    private static void runOfReasons() {
        promise = "19 runOf: reasons";
        RollScales x = scales("5+12*6;10", 20, 0, 60, 1, 0);
        due("whole on the plate", x.runOf(0, 4, 1), 0);
        due("weight", x.runOf(0, 4, 0), 11);
        due("five axles", scales("1+2*2+2*3+2*4+2*5", 20, 0, 60, 1, 0).runOf(0, 4, 0), 15);
        x.set(0, 12);
        due("never whole", x.runOf(0, 4, 1), 3);
        due("no weight", x.runOf(0, 4, 0), NONE);
        x.lift(0, 1, true);
        due("only one is down", x.runOf(0, 4, 1), 0);
        due("it bears all", x.runOf(0, 4, 0), 11);
        // A level told when the cart has left already: the wires told one axle, so it is told.
        x.set(3, 4);
        x.set(4, 10);
        due("level off the plate", x.runOf(1, 4, 8), 3);
        due("no reason", x.runOf(1, 4, 1), 0);
        due("weight", x.runOf(1, 4, 0), 7);
        // Axles that come at one tick are one tick of axles.
        RollScales y = scales("10+2*10", 10, 0, 60, 3, 20);
        due("two ticks", y.runOf(0, 9, 6), 2);
        due("level, of 10, 20 and 0", y.runOf(0, 9, 4), 10);
        due("its tick", y.runOf(0, 9, 8), 2);
        due("none was on the plate any more", y.runOf(0, 9, 1), 3);
        RollScales z = scales("10+2*10+2*10", 10, 0, 60, 3, 20);
        z.lift(0, 0, true);
        due("one tick", z.runOf(0, 9, 6), 1);
        due("level", z.runOf(0, 9, 4) >= 0 ? 1 : 0, z.runOf(0, 9, 3) > 0 ? 1 : 0);
        due("never reason 3", z.runOf(0, 9, 1) == 3 ? 1 : 0, 0);
        z.set(1, 100);
        z.set(3, 9);
        due("no level", z.runOf(0, 9, 1), 2);
        z.set(0, 90);
        z.axle(0, 40, 9);
        z.axle(0, 40, 9);
        z.set(4, 0);
        due("too long goes ahead", z.runOf(0, 1, 1), 1);
    }

    private static void runOfAxleWeights() {
        promise = "19 runOf: weight of the axles";
        RollScales x = scales("5+20*7", 10, 0, 60, 1, 0);
        due("reason", x.runOf(0, 2, 1), 3);
        due("5 and 7", x.runOf(0, 2, 7), 12);
        x.set(0, 40);
        due("reason 0", x.runOf(0, 2, 1), 0);
        due("with the reason 3 alone", x.runOf(0, 2, 7), NONE);
        x.set(0, 10);
        x.axle(0, 2, 9);
        // Loads 5, 0, 7, 16, 9, 0: rises of 5, 7 and 9 as three axles come.
        due("steps", x.runOf(0, 2, 7), 21);
        x.lift(0, 2, true);
        // The axle in the middle bears 16: levels 5, 0, 16, 0.
        due("lifted", x.runOf(0, 2, 7), 21);
        x.set(4, 16);
        // A bound of 16 tells 5 alone: as many levels rise as one, two axles came.
        due("too few rises", x.runOf(0, 2, 1), 3);
        due("too few rises", x.runOf(0, 2, 7), NONE);
        RollScales slow = scales("5+40*5+40*5+40*5", 10, 0, 60, 1, 0);
        due("reason 1", slow.runOf(0, 1, 1), 1);
        due("with the reason 3 alone", slow.runOf(0, 1, 7), NONE);
        due("reason 3", slow.runOf(0, 2, 1), 3);
        due("four axles", slow.runOf(0, 2, 7), 20);
        // Levels 10 and 3: after the first one none rises.
        RollScales falling = scales("10+8*3", 10, 0, 60, 2, 0);
        due("levels", falling.runOf(0, 2, 3), 2);
        due("reason", falling.runOf(0, 2, 1), 3);
        due("one rise, two axles", falling.runOf(0, 2, 7), NONE);
        // Levels 0, 10, 0, 7 and 0: a first level of 0 is no rise.
        RollScales nothing = scales("4+20*6+20*7", 10, 0, 60, 1, 0);
        nothing.lift(0, 0, true);
        due("levels", nothing.runOf(0, 2, 3), 5);
        due("two rises, two axles", nothing.runOf(0, 2, 7), 17);
    }

    private static void runOfErrors() {
        promise = "19 runOf: errors";
        RollScales x = withCarts("100");
        due("no cart", x.runOf(1, 5, 0), UNKNOWN);
        due("no cart, bad", x.runOf(1, 0, 9), UNKNOWN);
        due("slow", x.runOf(0, 0, 0), BAD_VALUE);
        due("fast", x.runOf(0, 10, 0), BAD_VALUE);
        due("what 9", x.runOf(0, 5, 9), BAD_VALUE);
        for (int value : WILD) {
            due("wild", x.runOf(value, 5, 0), UNKNOWN);
            due("wild", x.runOf(0, value, 0), BAD_VALUE);
            due("wild", x.runOf(0, 5, value), BAD_VALUE);
        }
        due("no run is kept", x.count(1), 0);
        due("no act", x.count(4), 1);
    }

    private static void count() {
        promise = "20 count";
        RollScales x = scales("30;40", 11, 1, 2, 1, 4, 5);
        x.set(1, 0);
        x.run(0, 9);
        x.run(0, 8);
        x.tare(0);
        x.set(3, 9);
        x.run(1, 9);
        int[] want = {2, 3, 2, 1, 4, 5, 11, 0, 2, 9, 4, 5};
        for (int what = 0; what < want.length; what++) {
            due("what " + what, x.count(what), want[what]);
        }
        due("what 12", x.count(12), BAD_VALUE);
        due("what -1", x.count(-1), BAD_VALUE);
        for (int value : WILD) {
            due("wild", x.count(value), BAD_VALUE);
        }
        due("six more than the greatest", x.count(Integer.MIN_VALUE + 5), BAD_VALUE);
        x.undo();
        due("runs undone", x.count(1), 2);
        x.cart(5);
        due("one of three has a tare", x.count(3), 1);
    }

    private static void off() {
        promise = "21 off";
        RollScales x = scales("10;99", 10, 0, 60, 3, 20);
        dueFloat("6 of 10", x.off(0, 5), (float) -4 / (float) 10);
        dueFloat("no cart", x.off(2, 5), 2.0f);
        dueFloat("slow", x.off(0, 0), 2.0f);
        dueFloat("fast", x.off(0, 10), 2.0f);
        for (int value : WILD) {
            dueFloat("wild", x.off(value, 5), 2.0f);
            dueFloat("wild", x.off(0, value), 2.0f);
        }
        dueFloat("none told", x.off(1, 9), 2.0f);
        x.set(3, 1);
        dueFloat("exact", x.off(1, 9), 0.0f);
        x.set(1, 100);
        dueFloat("twice as much", x.off(1, 9), 1.0f);
        x.set(1, 33);
        dueFloat("more by a third", x.off(1, 9), (float) 32 / (float) 99);
        x.cart(1);
        dueFloat("the lightest", x.off(2, 9), 0.0f);
    }

    private static void fastest() {
        promise = "22 fastest";
        RollScales x = scales("60;50;200", 40, 40, 0, 9, 0);
        due("no cart", x.fastest(3), UNKNOWN);
        for (int value : WILD) {
            due("wild", x.fastest(value), UNKNOWN);
        }
        // Tick 0 swings, so ten ticks must be on the plate: at 4 there are ten, at 5 eight.
        due("60", x.fastest(0), 4);
        x.set(0, 10);
        due("60, ten ticks at 1 alone", x.fastest(0), 1);
        x.set(0, 40);
        x.set(3, 1);
        due("the swing is told", x.fastest(0), NONE);
        x.set(1, 0);
        due("no swing", x.fastest(0), 9);
        // 200 and a swing of 10 are told as 210.
        x.set(1, 5);
        due("200 by 10", x.fastest(2), NONE);
        x.set(4, 10);
        due("200 by 10, bound 10", x.fastest(2), 9);
        x.set(4, 9);
        due("200 by 10, bound 9", x.fastest(2), NONE);
        due("no act", x.count(4), 4);
    }

    private static void leastWindow() {
        promise = "23 leastWindow";
        RollScales x = scales("60", 40, 40, 0, 4, 0);
        due("no cart", x.leastWindow(1, 9), UNKNOWN);
        due("no cart, bad", x.leastWindow(1, 0), UNKNOWN);
        due("slow", x.leastWindow(0, 0), BAD_VALUE);
        due("fast", x.leastWindow(0, 10), BAD_VALUE);
        for (int value : WILD) {
            due("wild", x.leastWindow(value, 9), UNKNOWN);
            due("wild", x.leastWindow(0, value), BAD_VALUE);
        }
        // A window of 1 tells the 84 of the tick 0.
        due("2", x.leastWindow(0, 9), 2);
        x.set(1, 0);
        due("1", x.leastWindow(0, 9), 1);
        due("the window stays", x.count(9), 4);
        x.set(1, 100);
        x.set(2, 95);
        due("none", x.leastWindow(0, 9), NONE);
        RollScales slow = scales("5+40*5", 90, 0, 60, 1, 0);
        due("too long", slow.leastWindow(0, 1), NONE);
        due("not too long", slow.leastWindow(0, 2), 1);
        // The second axle comes at the tick 8: a level told earlier is that of the first one alone.
        RollScales late = scales("50+40*1", 90, 0, 60, 1, 1);
        due("9", late.leastWindow(0, 5), 9);
    }

    private static void shortestPlate() {
        promise = "24 shortestPlate";
        RollScales x = scales("5+20*6", 40, 0, 0, 1, 0);
        due("no cart", x.shortestPlate(1, 9), UNKNOWN);
        due("no cart, bad", x.shortestPlate(1, 0), UNKNOWN);
        due("slow", x.shortestPlate(0, 0), BAD_VALUE);
        due("fast", x.shortestPlate(0, 10), BAD_VALUE);
        for (int value : WILD) {
            due("wild", x.shortestPlate(value, 9), UNKNOWN);
            due("wild", x.shortestPlate(0, value), BAD_VALUE);
        }
        due("just longer than the cart", x.shortestPlate(0, 1), 21);
        due("at 9 the axle comes at the tick 3, at 27", x.shortestPlate(0, 9), 28);
        due("the plate stays", x.count(6), 40);
        x.load(0, 0, 11);
        x.set(4, 6);
        // 17 after 11 is no level at a bound of 6, so that the greatest one is that of the first axle alone.
        due("bound 6", x.shortestPlate(0, 9), NONE);
        x.set(4, 5);
        due("bound 5", x.shortestPlate(0, 9), 28);
        x.lift(0, 0, true);
        due("10", x.shortestPlate(0, 9), 10);
        RollScales wide = scales("5+40*5+40*5+11*5", 40, 0, 0, 1, 0);
        due("longer than 90", wide.shortestPlate(0, 9), NONE);
        due("too long", wide.shortestPlate(0, 1), NONE);
        RollScales last = scales("5+40*5+40*5+9*5", 40, 0, 0, 1, 0);
        due("90", last.shortestPlate(0, 9), NONE);
        due("at 2 it comes at the tick 45, at 90", last.shortestPlate(0, 2), NONE);
        RollScales all = scales("5+40*5+40*5+8*5", 40, 0, 0, 1, 0);
        due("at 8 it comes at the tick 11, at 88", all.shortestPlate(0, 8), 89);
        RollScales longest = scales("5+10*5+40*5+40*5+9*5", 40, 0, 0, 1, 0);
        longest.lift(0, 0, true);
        due("at 9 the last one comes at the tick 11, the second one at 89", longest.shortestPlate(0, 9), 90);
        RollScales most = scales("5+40*5+40*5+9*5", 40, 0, 0, 1, 0);
        most.lift(0, 3, true);
        due("the one that is lifted need not be on it", most.shortestPlate(0, 8), 81);
        due("no act", most.count(4), 4);
    }
}
