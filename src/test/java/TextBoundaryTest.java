/** The boundaries of the text: each sentence of the document that names one has its own test. */
public final class TextBoundaryTest extends Sheet {
    private static final String LONGEST =
            "100+20*100+20*100+20*100+20*100;100+20*100+20*100+20*100+2*1";

    public static void main(String[] args) {
        atMost60();
        anyCharacter();
        emptyText();
        oneOrMoreCarts();
        weightsOfCarts();
        weightsOfAxles();
        distances();
        fourAxlesMore();
        noZeroInFront();
        charactersAtEachPlace();
        endsTooEarly();
        firstFaultAlone();
        asManyCartsAsThereIsRoom();
        faultAheadOfFull();
        allOrNone();
        oneAct();
        newCartsHaveNothing();
        textIsNoState();
        end();
    }

    private static int faultOf(String text) {
        return typed(new RollScales(), text).fault();
    }

    private static void atMost60() {
        sentence("There is a text of at most 60 characters, empty at first.");
        RollScales x = new RollScales();
        due("length at first", x.count(5), 0);
        due("empty at first", x.clearText(), 0);
        for (int length = 1; length <= 60; length++) {
            due("length", x.type(LONGEST.charAt(length - 1)), length);
            due("length", x.count(5), length);
        }
        due("61", x.type('1'), FULL);
        due("61 again", x.type(';'), FULL);
        due("length", x.count(5), 60);
        due("fault of 60", x.fault(), NONE);
        due("carts of 60", x.carts(), 2);
        due("the last character", x.axleOf(1, 4, 0), 1);
        due("length that it had", x.clearText(), 60);
        due("length that it has", x.clearText(), 0);
        due("room again", x.type('1'), 1);
    }

    private static void anyCharacter() {
        sentence("`character`: any character");
        RollScales x = new RollScales();
        int[] any = {0, 1, 9, 10, 13, 32, 47, 48, 57, 58, 127, 128, 255, 256, 48 + 256, 32767, 32768, 65534, 65535};
        for (int at = 0; at < any.length; at++) {
            due("character " + any[at], x.type((char) any[at]), at + 1);
        }
        for (int character : any) {
            RollScales y = new RollScales();
            y.type((char) character);
            due("fault of " + character, y.fault(), character == 57 ? NONE : 0);
        }
        due("no act", x.count(4), 0);
    }

    private static void emptyText() {
        sentence("or the length of the text if it ends too early (the empty text does).");
        RollScales x = new RollScales();
        due("fault", x.fault(), 0);
        due("carts", x.carts(), -100);
        x.type('5');
        due("no fault", x.fault(), NONE);
        x.clearText();
        due("fault, empty again", x.fault(), 0);
        due("carts, empty again", x.carts(), -100);
        due("no cart", x.count(0), 0);
    }

    private static void oneOrMoreCarts() {
        sentence("A text of carts is one or more carts with \";\" between two:");
        due("one", faultOf("5"), NONE);
        due("two", faultOf("5;6"), NONE);
        due("thirty", faultOf("1;2;3;4;5;6;7;8;9;1;2;3;4;5;6;7;8;9;1;2;3;4;5;6;7;8;9;1;2;30"), NONE);
        due("ahead of the first one", faultOf(";5"), 0);
        due("behind the last one", faultOf("5;"), 2);
        due("two between", faultOf("5;;6"), 2);
        due("it alone", faultOf(";"), 0);
        due("behind a distance", faultOf("5+6;7"), 3);
        due("behind an axle", faultOf("5+6*7;8+9*10;11"), NONE);
        due("another sign", faultOf("5:6"), 1);
    }

    /** The place of the fault in the digits of this number, or -1 if they have none; most is 200 or 40. */
    private static int badDigit(String digits, int most) {
        if (digits.charAt(0) == '0') {
            return 0;
        }
        for (int length = 1; length <= digits.length(); length++) {
            if (Integer.parseInt(digits.substring(0, length)) > most) {
                return length - 1;
            }
        }
        return -1;
    }

    private static void weightsOfCarts() {
        sentence("a weight (1 to 200),");
        for (int weight = 0; weight <= 2100; weight++) {
            int bad = badDigit(String.valueOf(weight), 200);
            due("weight " + weight, faultOf(String.valueOf(weight)), bad < 0 ? NONE : bad);
        }
        due("a number of 59 digits", faultOf("1" + "0".repeat(59)), 3);
        due("beyond an int", faultOf("4294967297"), 2);
        RollScales x = scales("1;2;199;200");
        due("1", x.cartOf(0, 2), 1);
        due("200", x.cartOf(3, 2), 200);
    }

    private static void weightsOfAxles() {
        sentence("a distance (2 to 40), \"*\", a weight.");
        for (int weight = 0; weight <= 2100; weight++) {
            int bad = badDigit(String.valueOf(weight), 200);
            due("weight " + weight, faultOf("5+6*" + weight), bad < 0 ? NONE : 4 + bad);
        }
        due("beyond an int", faultOf("5+6*4294967297"), 6);
        RollScales x = scales("200+2*1+40*200");
        due("1", x.axleOf(0, 1, 0), 1);
        due("200", x.axleOf(0, 2, 0), 200);
        due("2", x.axleOf(0, 1, 1), 2);
        due("40", x.axleOf(0, 2, 1), 40);
    }

    private static void distances() {
        sentence("Numbers have no zero in front; a digit by which a number would be greater than told is not allowed.");
        for (int distance = 0; distance <= 420; distance++) {
            String digits = String.valueOf(distance);
            int bad = badDigit(digits, 40);
            // A distance of 1 is too small when it ends, which the "*" behind it tells.
            int want = bad >= 0 ? 2 + bad : distance == 1 ? 3 : NONE;
            due("distance " + distance, faultOf("5+" + digits + "*6"), want);
            int early = bad >= 0 ? 2 + bad : 2 + digits.length();
            due("distance " + distance + ", and nothing more", faultOf("5+" + digits), early);
        }
        due("beyond an int", faultOf("5+4294967298*6"), 3);
    }

    private static void fourAxlesMore() {
        sentence("then none to four times \"+\", a distance (2 to 40), \"*\", a weight.");
        StringBuilder text = new StringBuilder("5");
        for (int more = 0; more <= 4; more++) {
            due(more + " more", faultOf(text.toString()), NONE);
            due(more + " more, axles", scales(text.toString()).cartOf(0, 0), more + 1);
            text.append("+2*6");
        }
        due("five more", faultOf(text.toString()), 17);
        due("a \"+\" alone", faultOf("5+2*6+2*6+2*6+2*6+"), 17);
        due("a cart behind four more", faultOf("5+2*6+2*6+2*6+2*6;7+2*6+2*6+2*6+2*6"), NONE);
        due("five more of the second cart", faultOf("5+2*6+2*6+2*6+2*6;7+2*6+2*6+2*6+2*6+"), 35);
        due("five more of the second cart alone", faultOf("5;7+2*6+2*6+2*6+2*6+2*6"), 19);
        due("no distance", faultOf("5+*6"), 2);
        due("no weight", faultOf("5+2*+2*6"), 4);
        due("no \"*\"", faultOf("5+2+6"), 3);
    }

    private static void noZeroInFront() {
        sentence("Numbers have no zero in front;");
        due("0", faultOf("0"), 0);
        due("05", faultOf("05"), 0);
        due("00", faultOf("00"), 0);
        due("5;0", faultOf("5;0"), 2);
        due("5;06", faultOf("5;06"), 2);
        due("5+0", faultOf("5+0"), 2);
        due("5+02*6", faultOf("5+02*6"), 2);
        due("5+2*0", faultOf("5+2*0"), 4);
        due("5+2*06", faultOf("5+2*06"), 4);
        due("a zero that is not in front", faultOf("10;100;200;5+10*20+40*100"), NONE);
        due("a zero after 20", faultOf("200"), NONE);
        due("a zero after 200", faultOf("2000"), 3);
        due("a zero after 4", faultOf("5+40*6"), NONE);
        due("a zero after 40", faultOf("5+400*6"), 4);
    }

    private static void charactersAtEachPlace() {
        sentence("The fault of the text is the index, from 0, of the first character that is not allowed at its place,");
        String[][] places = {
            {"", "123456789"}, {"5", "0123456789+;"}, {"1", "0123456789+;"}, {"2", "0123456789+;"},
            {"10", "0123456789+;"}, {"19", "0123456789+;"}, {"20", "0+;"}, {"21", "+;"}, {"99", "+;"},
            {"100", "+;"}, {"200", "+;"},
            {"5+", "123456789"}, {"5+1", "0123456789"}, {"5+2", "0123456789*"}, {"5+3", "0123456789*"},
            {"5+4", "0*"}, {"5+5", "*"}, {"5+9", "*"}, {"5+10", "*"}, {"5+40", "*"},
            {"5+2*", "123456789"}, {"5+2*6", "0123456789+;"}, {"5+2*20", "0+;"}, {"5+2*200", "+;"},
            {"5+2*6+2*6+2*6", "0123456789+;"}, {"5+2*6+2*6+2*6+2*6", "0123456789;"},
            {"5+2*6+2*6+2*6+2*200", ";"}, {"5;", "123456789"}, {"5;6", "0123456789+;"},
            {"5+2*6+2*6+2*6+2*6;", "123456789"}, {"5+2*6+2*6+2*6+2*6;7", "0123456789+;"},
        };
        for (String[] place : places) {
            for (int character = 0; character < 300; character++) {
                String text = place[0] + (char) character;
                boolean allowed = place[1].indexOf(character) >= 0;
                boolean whole = "0123456789".indexOf(character) >= 0 && !text.matches(".*\\+[0-9]*");
                int want = !allowed ? place[0].length() : whole ? NONE : text.length();
                due("\"" + place[0] + "\" and the character " + character, faultOf(text), want);
            }
        }
    }

    private static void endsTooEarly() {
        sentence("or the length of the text if it ends too early");
        String[] early = {"5+", "5+1", "5+2", "5+4", "5+40", "5+40*", "5;", "5;6+", "200+40*200;", "5+2*6+", "5+2*6+3"};
        for (String text : early) {
            due("\"" + text + "\"", faultOf(text), text.length());
            due("carts of \"" + text + "\"", typed(new RollScales(), text).carts(), -100 - text.length());
        }
        RollScales x = typed(new RollScales(), LONGEST.substring(0, 59) + ";");
        due("60 characters, the last one is no digit", x.fault(), 59);
        due("its carts", x.carts(), -159);
        x = typed(new RollScales(), "1;2;3;4;5;6;7;8;9;1;2;3;4;5;6;7;8;9;1;2;3;4;5;6;7;8;9;1;2;3;");
        due("60 characters, and too early", x.count(5), 60);
        due("its fault", x.fault(), 60);
        due("its carts", x.carts(), -160);
        due("no cart", x.count(0), 0);
    }

    private static void firstFaultAlone() {
        sentence("Returns the index; NONE if it has none.");
        due("two faults", faultOf("5x6y"), 1);
        due("a fault, then too early", faultOf("0;"), 0);
        due("behind a fault all is free", faultOf("5;6 ;7"), 3);
        due("good again after a fault", faultOf("5,6;7"), 1);
        RollScales x = typed(new RollScales(), "5;6");
        due("none", x.fault(), NONE);
        x.type('7');
        due("none of 5;67", x.fault(), NONE);
        x.type('8');
        due("678 is too much", x.fault(), 4);
        x.type('9');
        due("the first one stays", x.fault(), 4);
        due("the text stays", x.count(5), 6);
        due("no act", x.count(4), 0);
    }

    private static String carts(int count) {
        return "1;2;3;4;5;6;7;8".substring(0, 2 * count - 1);
    }

    private static void asManyCartsAsThereIsRoom() {
        sentence("FULL if there would be more than 6.");
        for (int there = 0; there <= 6; there++) {
            for (int come = 1; come <= 8; come++) {
                RollScales x = new RollScales();
                for (int cart = 0; cart < there; cart++) {
                    x.cart(100);
                }
                int states = x.count(4);
                boolean room = there + come <= 6;
                typed(x, carts(come));
                due(come + " to " + there, x.carts(), room ? come : FULL);
                due(come + " to " + there + ", then", x.count(0), room ? there + come : there);
                due(come + " to " + there + ", states", x.count(4), room ? Math.min(4, states + 1) : states);
            }
        }
        due("thirty", scales("1;2;3;4;5;6;7;8;9;1;2;3;4;5;6;7;8;9;1;2;3;4;5;6;7;8;9;1;2;30").carts(), FULL);
    }

    private static void faultAheadOfFull() {
        sentence("-100 minus the fault of the text if it has one (which is an error);");
        RollScales x = scales("1;2;3;4;5;6");
        due("seven with a fault", typed(x, "1;2;3;4;5;6;7x").carts(), -113);
        due("seven that end too early", typed(x, "1;2;3;4;5;6;7;").carts(), -114);
        due("empty", typed(x, "").carts(), -100);
        due("six more", typed(x, "1").carts(), FULL);
        due("states", x.count(4), 1);
        due("carts", x.count(0), 6);
    }

    private static void allOrNone() {
        sentence("The carts of the text, which stays, come, one after the other; all of them or none.");
        RollScales x = scales("10+2*3;20");
        due("two", x.count(0), 2);
        due("none of a text with a fault in its last cart", typed(x, "30;40;50;0").carts(), -109);
        due("two", x.count(0), 2);
        due("none of five", typed(x, "30;40;50;60;70").carts(), FULL);
        due("two", x.count(0), 2);
        due("cart 2", x.cartOf(2, 2), UNKNOWN);
        due("all of four", typed(x, "30;40+5*6;50;60").carts(), 4);
        int[] weights = {13, 20, 30, 46, 50, 60};
        for (int cart = 0; cart < 6; cart++) {
            due("weight of " + cart, x.cartOf(cart, 2), weights[cart]);
        }
        due("the text stays", x.count(5), 15);
        due("it has no fault", x.fault(), NONE);
    }

    private static void oneAct() {
        sentence("This is one act.");
        RollScales x = scales("1;2;3;4;5;6");
        due("one state", x.count(4), 1);
        due("undo", x.undo(), 0);
        due("no carts", x.count(0), 0);
        due("the text stays, and its carts come again", x.carts(), 6);
        due("carts", x.count(0), 6);
        due("one state", x.count(4), 1);
    }

    private static void newCartsHaveNothing() {
        sentence("The carts of the text, which stays, come,");
        RollScales x = scales("5+2*6+2*7", 10, 0, 0, 1, 0);
        x.lift(0, 0, true);
        due("run", x.run(0, 9), 18);
        due("tare", x.tare(0), 18);
        for (int state = 3; state >= 0; state--) {
            due("states left", x.undo(), state);
        }
        due("none is left", x.count(0), 0);
        due("one comes", typed(x, "8+3*9").carts(), 1);
        int[] want = {2, 2, 17, 3, NONE, NONE, NONE, NONE, NONE};
        for (int what = 0; what < want.length; what++) {
            due("what " + what, x.cartOf(0, what), want[what]);
        }
        due("axle 0", x.axleOf(0, 0, 2), 0);
        due("axle 1", x.axleOf(0, 1, 0), 9);
        due("axle 2", x.axleOf(0, 2, 0), UNKNOWN);
        x.axle(0, 4, 10);
        due("an axle that comes is down", x.axleOf(0, 2, 2), 0);
        due("its distance", x.axleOf(0, 2, 1), 4);
    }

    private static void textIsNoState() {
        sentence("A state is everything but the text, the history and the snapshot.");
        RollScales x = typed(new RollScales(), "5");
        x.cart(1);
        x.keep();
        x.type(';');
        x.type('6');
        due("undo", x.undo(), 0);
        due("the text after undo", x.count(5), 3);
        due("restore", x.restore(), 1);
        due("the text after restore", x.count(5), 3);
        due("its carts", x.carts(), 2);
        x.clearText();
        x.undo();
        due("empty after undo", x.count(5), 0);
        x.restore();
        due("empty after restore", x.count(5), 0);
    }
}
