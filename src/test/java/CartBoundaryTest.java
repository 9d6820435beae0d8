/** The boundaries of carts, axles and settings: each sentence of the document that names one has its own test. */
public final class CartBoundaryTest extends Sheet {
    private static final int[] FIRST_SETTINGS = {40, 40, 60, 4, 3, 12};

    public static void main(String[] args) {
        newObject();
        lastCallThatIsPromised();
        sixCarts();
        fiveAxles();
        axleNumbers();
        cartWeights();
        axleWeights();
        loadWeights();
        distances();
        firstDistance();
        lastAxleDown();
        lastAxleDownOfEach();
        liftedBearsNothing();
        bearerOfEachSet();
        wholeWeight();
        wholeLength();
        noTareAtFirst();
        noRunAtFirst();
        negativeNet();
        lengthOfPlate();
        swinging();
        leftOfSwing();
        window();
        bound();
        wires();
        settingsThatAreNot();
        countThatIsNot();
        end();
    }

    private static void newObject() {
        sentence("Creates scales without carts.");
        RollScales x = new RollScales();
        due("carts", x.count(0), 0);
        due("cart 0", x.cartOf(0, 0), UNKNOWN);
        due("runs", x.count(1), 0);
        due("runs that told", x.count(2), 0);
        due("carts with a tare", x.count(3), 0);
        due("states", x.count(4), 0);
        due("text", x.count(5), 0);
        for (int which = 0; which < 6; which++) {
            due("setting " + which, x.count(6 + which), FIRST_SETTINGS[which]);
        }
        due("keep of nothing", x.keep(), 0);
        x.cart(9);
        due("restore of nothing", x.restore(), 0);
        due("another object has none of it", new RollScales().count(4), 0);
    }

    private static void lastCallThatIsPromised() {
        sentence("An object is used for at most 512 calls after it has been made; what later calls answer is free.");
        RollScales x = new RollScales();
        due("call 1", x.cart(200), 0);
        int previous = 200;
        for (int call = 2; call <= 509; call++) {
            int weight = 1 + call % 199;
            due("call " + call, x.load(0, 0, weight), previous);
            previous = weight;
        }
        due("call 510", x.count(4), 4);
        due("call 511", x.undo(), 3);
        due("call 512", x.axleOf(0, 0, 0), 1 + 508 % 199);
    }

    private static void sixCarts() {
        sentence("There are at most 6 carts, numbered from 0.");
        RollScales x = new RollScales();
        for (int number = 0; number < 6; number++) {
            due("ahead of it", x.cartOf(number, 2), UNKNOWN);
            due("comes", x.cart(10 + number), number);
            due("is there", x.cartOf(number, 2), 10 + number);
            due("carts", x.count(0), number + 1);
        }
        due("a seventh", x.cart(10), FULL);
        due("a seventh, again", x.cart(200), FULL);
        due("a seventh by a text", typed(x, "1").carts(), FULL);
        due("carts", x.count(0), 6);
        due("number 6", x.cartOf(6, 2), UNKNOWN);
        due("number -1", x.cartOf(-1, 2), UNKNOWN);
        due("least number", x.cartOf(LEAST, 2), UNKNOWN);
        due("greatest number", x.cartOf(MOST, 2), UNKNOWN);
        x.undo();
        due("the sixth is gone", x.cartOf(5, 2), UNKNOWN);
        due("room again", x.cart(77), 5);
        due("the new sixth", x.cartOf(5, 2), 77);
    }

    private static void fiveAxles() {
        sentence("A cart has 1 to 5 axles, numbered from 0 in front;");
        RollScales x = new RollScales();
        x.cart(1);
        x.cart(100);
        due("one", x.cartOf(0, 0), 1);
        for (int axles = 2; axles <= 5; axles++) {
            due("comes", x.axle(0, axles, axles), axles);
            due("axles", x.cartOf(0, 0), axles);
            due("it is the last one", x.axleOf(0, axles - 1, 0), axles);
        }
        due("a sixth", x.axle(0, 2, 2), FULL);
        due("axles", x.cartOf(0, 0), 5);
        due("weight", x.cartOf(0, 2), 15);
        due("length", x.cartOf(0, 3), 14);
        due("the other cart has room", x.axle(1, 40, 200), 2);
        x.undo();
        x.undo();
        due("room again", x.axle(0, 9, 9), 5);
    }

    private static void axleNumbers() {
        sentence("`axle`: an axle of it");
        RollScales x = scales("5;1+2*1+2*1+2*1+2*1");
        int[] none = {LEAST, LEAST + 1, -1, 1, 4, 5, MOST - 1, MOST};
        for (int axle : none) {
            due("load of axle " + axle, x.load(0, axle, 9), UNKNOWN);
            due("lift of axle " + axle, x.lift(0, axle, true), UNKNOWN);
            due("letting down of axle " + axle, x.lift(0, axle, false), UNKNOWN);
            due("axleOf of axle " + axle, x.axleOf(0, axle, 0), UNKNOWN);
        }
        due("axle 4 of the other cart", x.axleOf(1, 4, 0), 1);
        due("load of axle 4", x.load(1, 4, 9), 1);
        due("lift of axle 4", x.lift(1, 4, true), 4);
        due("axle 5 of the other cart", x.axleOf(1, 5, 0), UNKNOWN);
        x.axle(0, 2, 7);
        due("axle 1 has come", x.axleOf(0, 1, 0), 7);
        x.undo();
        due("axle 1 is gone", x.axleOf(0, 1, 0), UNKNOWN);
        due("axle 1 is gone, load", x.load(0, 1, 3), UNKNOWN);
    }

    private static void cartWeights() {
        sentence("A cart of one axle comes. This is an act. - `weight`: 1 to 200");
        RollScales x = new RollScales();
        int[] out = {LEAST, LEAST + 1, -200, -1, 0, 201, 256, 257, 65537, MOST - 1, MOST};
        for (int weight : out) {
            due("cart(" + weight + ")", x.cart(weight), BAD_VALUE);
        }
        due("carts", x.count(0), 0);
        int[] in = {1, 2, 199, 200};
        for (int at = 0; at < in.length; at++) {
            due("cart(" + in[at] + ")", x.cart(in[at]), at);
            due("its axle", x.axleOf(at, 0, 0), in[at]);
            due("its axles", x.cartOf(at, 0), 1);
        }
    }

    private static void axleWeights() {
        sentence("- `distance`: 2 to 40 - `weight`: 1 to 200");
        RollScales x = scales("5");
        int[] out = {LEAST, LEAST + 1, -200, -1, 0, 201, 256, 257, 65537, MOST - 1, MOST};
        for (int weight : out) {
            due("axle(0, 2, " + weight + ")", x.axle(0, 2, weight), BAD_VALUE);
        }
        due("axles", x.cartOf(0, 0), 1);
        int[] in = {1, 2, 199, 200};
        for (int at = 0; at < in.length; at++) {
            due("axle(0, 2, " + in[at] + ")", x.axle(0, 2, in[at]), at + 2);
            due("its weight", x.axleOf(0, at + 1, 0), in[at]);
        }
    }

    private static void loadWeights() {
        sentence("- `axle`: an axle of it - `weight`: 1 to 200");
        RollScales x = scales("5");
        int[] out = {LEAST, LEAST + 1, -5, -1, 0, 201, 261, 65541, MOST - 1, MOST};
        for (int weight : out) {
            due("load(0, 0, " + weight + ")", x.load(0, 0, weight), BAD_VALUE);
        }
        due("the weight stays", x.axleOf(0, 0, 0), 5);
        due("200", x.load(0, 0, 200), 5);
        due("200 again", x.load(0, 0, 200), NONE);
        due("199", x.load(0, 0, 199), 200);
        due("1", x.load(0, 0, 1), 199);
        due("1 again", x.load(0, 0, 1), NONE);
        due("2", x.load(0, 0, 2), 1);
        due("the weight", x.axleOf(0, 0, 0), 2);
    }

    private static void distances() {
        sentence("and is by some distance behind the one ahead of it (2 to 40;");
        RollScales x = scales("5");
        int[] out = {LEAST, LEAST + 1, -40, -2, -1, 0, 1, 41, 258, 65538, MOST - 1, MOST};
        for (int distance : out) {
            due("axle(0, " + distance + ", 1)", x.axle(0, distance, 1), BAD_VALUE);
        }
        due("axles", x.cartOf(0, 0), 1);
        int[] in = {2, 3, 39, 40};
        for (int at = 0; at < in.length; at++) {
            due("axle(0, " + in[at] + ", 1)", x.axle(0, in[at], 1), at + 2);
            due("its distance", x.axleOf(0, at + 1, 1), in[at]);
        }
        due("length", x.cartOf(0, 3), 84);
    }

    private static void firstDistance() {
        sentence("the first one by none).");
        RollScales x = scales("5;6+40*7");
        due("a cart of one axle", x.axleOf(0, 0, 1), 0);
        due("its length", x.cartOf(0, 3), 0);
        due("a cart of two axles", x.axleOf(1, 0, 1), 0);
        due("the second one", x.axleOf(1, 1, 1), 40);
    }

    private static void lastAxleDown() {
        sentence("An axle can be lifted, but not the last one that is down:");
        RollScales x = scales("5;6+2*7");
        due("the only one", x.lift(0, 0, true), NOT_POSSIBLE);
        due("it is down already", x.lift(0, 0, false), NONE);
        due("it is down", x.axleOf(0, 0, 2), 0);
        due("one of two", x.lift(1, 0, true), 1);
        due("the other one", x.lift(1, 1, true), NOT_POSSIBLE);
        due("it is up already", x.lift(1, 0, true), NONE);
        due("the other one is down already", x.lift(1, 1, false), NONE);
        due("let down", x.lift(1, 0, false), 2);
        due("let down already", x.lift(1, 0, false), NONE);
        due("now the other one", x.lift(1, 1, true), 1);
        due("an axle comes", x.axle(1, 2, 8), 3);
        due("it is down, so the first one can be lifted", x.lift(1, 0, true), 1);
        due("the one that came is the last one down", x.lift(1, 2, true), NOT_POSSIBLE);
    }

    private static void lastAxleDownOfEach() {
        sentence("NOT_POSSIBLE if it is the last one that is down, and is to be lifted;");
        for (int last = 0; last < 5; last++) {
            RollScales x = scales("1+2*2+2*4+2*8+2*16");
            int down = 5;
            for (int axle = 0; axle < 5; axle++) {
                if (axle != last) {
                    down--;
                    due("lift", x.lift(0, axle, true), down);
                }
            }
            due("axles down", x.cartOf(0, 1), 1);
            due("the last one", x.lift(0, last, true), NOT_POSSIBLE);
            due("it bears all", x.axleOf(0, last, 3), 31);
            due("it is down", x.axleOf(0, last, 2), 0);
            due("axles", x.cartOf(0, 0), 5);
            due("states", x.count(4), 4);
        }
    }

    private static void liftedBearsNothing() {
        sentence("then it bears nothing, and the nearest axle behind it that is down bears its weight, too");
        RollScales x = lifted(scales("1+2*2+2*4+2*8+2*16"), 1);
        due("the lifted one", x.axleOf(0, 1, 3), 0);
        due("it has its weight", x.axleOf(0, 1, 0), 2);
        due("the one behind", x.axleOf(0, 2, 3), 6);
        due("the one ahead", x.axleOf(0, 0, 3), 1);
        due("the farther one behind", x.axleOf(0, 3, 3), 8);
        x.load(0, 1, 200);
        due("loaded while it is lifted", x.axleOf(0, 2, 3), 204);
        x.lift(0, 2, true);
        due("two, over the second of them", x.axleOf(0, 3, 3), 212);
        sentence("(if there is none, the nearest one ahead of it that is down).");
        x.lift(0, 3, true);
        due("the last one is down", x.axleOf(0, 4, 3), 228);
        x.lift(0, 4, true);
        due("only the first one is down", x.axleOf(0, 0, 3), 229);
        x.lift(0, 2, false);
        due("the middle bears those behind and the one ahead", x.axleOf(0, 2, 3), 228);
        due("the first one", x.axleOf(0, 0, 3), 1);
    }

    private static int bearer(int axle, int up) {
        for (int behind = axle; behind < 5; behind++) {
            if ((up >> behind & 1) == 0) {
                return behind;
            }
        }
        int ahead = axle;
        while ((up >> ahead & 1) == 1) {
            ahead--;
        }
        return ahead;
    }

    private static void bearerOfEachSet() {
        sentence("3 for what it bears");
        int[] weights = {1, 2, 4, 8, 16};
        for (int up = 0; up < 31; up++) {
            RollScales x = scales("1+2*2+2*4+2*8+2*16");
            int[] borne = new int[5];
            for (int axle = 0; axle < 5; axle++) {
                borne[bearer(axle, up)] += weights[axle];
                if ((up >> axle & 1) == 1) {
                    x.lift(0, axle, true);
                }
            }
            for (int axle = 0; axle < 5; axle++) {
                due("axle " + axle + ", lifted ones " + up, x.axleOf(0, axle, 3), borne[axle]);
                due("lifted " + axle + ", of " + up, x.axleOf(0, axle, 2), up >> axle & 1);
            }
            due("down, of " + up, x.cartOf(0, 1), 5 - Integer.bitCount(up));
        }
    }

    private static void wholeWeight() {
        sentence("The weight of a cart is that of all its axles.");
        RollScales x = scales("1;200;200+2*200+2*200+2*200+2*200");
        due("the least", x.cartOf(0, 2), 1);
        due("one axle", x.cartOf(1, 2), 200);
        due("the greatest", x.cartOf(2, 2), 1000);
        x.lift(2, 0, true);
        x.lift(2, 4, true);
        due("lifted ones, too", x.cartOf(2, 2), 1000);
    }

    private static void wholeLength() {
        sentence("3 for its length (all distances together)");
        RollScales x = scales("1;1+2*1;1+40*1+40*1+40*1+40*1");
        due("none", x.cartOf(0, 3), 0);
        due("the least", x.cartOf(1, 3), 2);
        due("the greatest", x.cartOf(2, 3), 160);
        x.lift(2, 4, true);
        due("lifted ones, too", x.cartOf(2, 3), 160);
    }

    private static void noTareAtFirst() {
        sentence("A cart has a tare, or none (at first).");
        RollScales x = scales("5;6", 10, 0, 0, 1, 0);
        due("none", x.cartOf(0, 4), NONE);
        x.run(0, 5);
        due("none by a run alone", x.cartOf(0, 4), NONE);
        due("no net without a tare", x.cartOf(0, 6), NONE);
        due("carts with a tare", x.count(3), 0);
        due("tare", x.tare(0), 5);
        due("it has one", x.cartOf(0, 4), 5);
        due("the other one has none", x.cartOf(1, 4), NONE);
        due("no net without a run", x.cartOf(1, 6), NONE);
        due("carts with a tare", x.count(3), 1);
        x.undo();
        due("none again", x.cartOf(0, 4), NONE);
        RollScales y = scales("5", 10, 0, 0, 1, 0);
        y.run(0, 5);
        y.tare(0);
        y.undo();
        y.undo();
        y.undo();
        due("a cart in the place of one that had a tare", y.cart(9), 0);
        due("has none", y.cartOf(0, 4), NONE);
    }

    private static void noRunAtFirst() {
        sentence("7 for the speed of its latest run (NONE without one), 8 for the axles told by the wires in that run");
        RollScales x = scales("5;6", 10, 0, 0, 9, 0);
        for (int what = 4; what <= 8; what++) {
            due("at first " + what, x.cartOf(0, what), NONE);
        }
        due("a run that tells none", x.run(0, 9), -12);
        due("speed", x.cartOf(0, 7), 9);
        due("axles", x.cartOf(0, 8), 1);
        due("weight", x.cartOf(0, 5), NONE);
        due("net", x.cartOf(0, 6), NONE);
        due("the other one has none", x.cartOf(1, 7), NONE);
        due("the other one has none", x.cartOf(1, 8), NONE);
    }

    private static void negativeNet() {
        sentence("6 for its net and 1000 (NONE without a tare or a weight)");
        // One axle bears 1000, and all of it swings at the tick 0: a weight of 2000 is told.
        RollScales x = scales("200+2*200+2*200+2*200+2*200", 10, 100, 0, 1, 0);
        lifted(x, 1, 2, 3, 4);
        due("run", x.run(0, 9), 2000);
        due("tare", x.tare(0), 2000);
        due("net of nothing", x.cartOf(0, 6), 1000);
        x.load(0, 0, 199);
        due("run", x.run(0, 9), 1998);
        due("net", x.cartOf(0, 6), 998);
        for (int axle = 0; axle < 5; axle++) {
            x.load(0, axle, 1);
        }
        due("run", x.run(0, 9), 10);
        due("net below -1000", x.cartOf(0, 6), -990);
        due("tare", x.tare(0), 10);
        for (int axle = 0; axle < 5; axle++) {
            x.load(0, axle, 200);
        }
        due("run", x.run(0, 9), 2000);
        due("net", x.cartOf(0, 6), 2990);
    }

    private static void setting(int which, int least, int most) {
        int first = FIRST_SETTINGS[which];
        RollScales x = new RollScales();
        int[] out = {LEAST, LEAST + 1, -256 + first, least - 1, most + 1, 256 + first, 65536 + first, MOST};
        due("first value", x.count(6 + which), first);
        for (int value : out) {
            due("set(" + which + ", " + value + ")", x.set(which, value), BAD_VALUE);
        }
        due("it stays", x.count(6 + which), first);
        due("as it is", x.set(which, first), NONE);
        due("no act", x.count(4), 0);
        due("least", x.set(which, least), first);
        due("least again", x.set(which, least), NONE);
        due("below the least", x.set(which, least - 1), BAD_VALUE);
        due("it is", x.count(6 + which), least);
        due("most", x.set(which, most), least);
        due("most again", x.set(which, most), NONE);
        due("above the most", x.set(which, most + 1), BAD_VALUE);
        due("it is", x.count(6 + which), most);
        due("all acts", x.count(4), 2);
        for (int other = 0; other < 6; other++) {
            due("setting " + other, x.count(6 + other), other == which ? most : FIRST_SETTINGS[other]);
        }
    }

    private static void lengthOfPlate() {
        sentence("0 the length of the plate (10 to 90; 40)");
        setting(0, 10, 90);
    }

    private static void swinging() {
        sentence("1 how much of a change of the load swings, in hundredths (0 to 100; 40)");
        setting(1, 0, 100);
    }

    private static void leftOfSwing() {
        sentence("2 how much of a swing is left at the next tick, in hundredths (0 to 95; 60)");
        setting(2, 0, 95);
    }

    private static void window() {
        sentence("3 the window (1 to 9; 4)");
        setting(3, 1, 9);
    }

    private static void bound() {
        sentence("4 the bound (0 to 20; 3)");
        setting(4, 0, 20);
    }

    private static void wires() {
        sentence("5 how far apart the wires are (4 to 40; 12).");
        setting(5, 4, 40);
    }

    private static void settingsThatAreNot() {
        sentence("`which`: 0 to 5");
        RollScales x = new RollScales();
        int[] out = {LEAST, LEAST + 1, -6, -1, 6, 7, 256, MOST - 1, MOST};
        for (int which : out) {
            due("set(" + which + ", 10)", x.set(which, 10), BAD_VALUE);
            due("set(" + which + ", -1)", x.set(which, -1), BAD_VALUE);
        }
        due("no act", x.count(4), 0);
    }

    private static void countThatIsNot() {
        sentence("5 for the length of the text, 6 to 11 for the settings");
        RollScales x = new RollScales();
        int[] out = {LEAST, LEAST + 5, LEAST + 6, LEAST + 11, -6, -1, 12, 13, 256, MOST - 6, MOST};
        for (int what : out) {
            due("count(" + what + ")", x.count(what), BAD_VALUE);
        }
        due("the last one", x.count(11), 12);
    }
}
