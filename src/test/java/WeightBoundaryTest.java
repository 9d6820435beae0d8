/** The boundaries of wires, weights and what would be: each sentence that names one has its own test. */
public final class WeightBoundaryTest extends Sheet {
    public static void main(String[] args) {
        speedByTheWires();
        firstTickOfAnAxle();
        axlesAtOneTick();
        liftedTouchNoWire();
        tooLongAheadOfTheOthers();
        noLevelWasTold();
        allWereOnThePlate();
        moreThanOneTickOfAxles();
        forTheFirstTime();
        greatestLevel();
        weightOf0();
        rises();
        asManyRises();
        reason3Alone();
        keptAndTold();
        offByHowMuch();
        offWithoutWeight();
        byTheBoundAtMost();
        farBelow();
        greatestSpeed();
        leastOfTheWindows();
        shortestOfThePlates();
        noneThatIsTooLong();
        noneThatTellsNoWeight();
        end();
    }

    /** The least number of ticks in which this speed goes so far. */
    private static int ticksFor(int distance, int speed) {
        int ticks = 0;
        while (speed * ticks < distance) {
            ticks++;
        }
        return ticks;
    }

    private static void speedByTheWires() {
        sentence("By the wires the speed is told as the distance of the wires divided by the ticks that the first axle takes from one to the other: that distance divided by the speed, rounded up.");
        for (int apart = 4; apart <= 40; apart++) {
            RollScales x = scales("5", 40, 40, 60, 4, 3, apart);
            for (int speed = 1; speed <= 9; speed++) {
                due(apart + " apart, by " + speed, x.runOf(0, speed, 5), apart / ticksFor(apart, speed));
            }
        }
        RollScales least = scales("5+2*5", 40, 40, 60, 4, 3, 4);
        due("4 by 1: four ticks", least.runOf(0, 1, 5), 1);
        due("4 by 3: two ticks", least.runOf(0, 3, 5), 2);
        due("4 by 4: one tick", least.runOf(0, 4, 5), 4);
        due("4 by 9: one tick", least.runOf(0, 9, 5), 4);
        least.set(5, 40);
        due("40 by 1: forty ticks", least.runOf(0, 1, 5), 1);
        due("40 by 8: five ticks", least.runOf(0, 8, 5), 8);
        due("40 by 9: five ticks", least.runOf(0, 9, 5), 8);
        due("40 by 7: six ticks", least.runOf(0, 7, 5), 6);
        least.lift(0, 0, true);
        due("40 by 7, the first one is lifted", least.runOf(0, 7, 5), 6);
        least.run(0, 7);
        due("the run keeps the speed that it had", least.cartOf(0, 7), 7);
    }

    private static void firstTickOfAnAxle() {
        sentence("The axles are told as the times at which axles come to the beginning of the plate: the first tick at which the place of the axle is 0 or more;");
        for (int distance = 2; distance <= 40; distance++) {
            RollScales x = scales("5+" + distance + "*5+2*5");
            for (int speed = 1; speed <= 9; speed++) {
                int want = ticksFor(distance, speed) == ticksFor(distance + 2, speed) ? 2 : 3;
                due(distance + " and 2 more, by " + speed, x.runOf(0, speed, 6), want);
            }
        }
        due("a place of 0 at the tick 1, and one of -1", scales("5+9*5+2*5").runOf(0, 9, 6), 3);
        due("places of 2 and 0 at the tick 1", scales("5+7*5+2*5").runOf(0, 9, 6), 2);
        due("places of 1 and -1 at the tick 1", scales("5+8*5+2*5").runOf(0, 9, 6), 3);
    }

    private static void axlesAtOneTick() {
        sentence("axles that come at one tick are told as one.");
        RollScales x = scales("5;5+2*5;5+2*5+2*5+2*5+2*5");
        int[] by9 = {1, 2, 2};
        int[] by1 = {1, 2, 5};
        for (int cart = 0; cart < 3; cart++) {
            due("by 9, cart " + cart, x.runOf(cart, 9, 6), by9[cart]);
            due("by 1, cart " + cart, x.runOf(cart, 1, 6), by1[cart]);
        }
        due("0, then 1, then 1, then 2, by 4", scales("5+2*5+2*5+2*5").runOf(0, 4, 6), 3);
        RollScales far = scales("5+40*5+40*5+40*5+40*5");
        due("also those that come when there are no readings any more", far.runOf(0, 1, 6), 5);
        due("it is too long", far.run(0, 1), -11);
        due("kept with all of them", far.cartOf(0, 8), 5);
    }

    private static void liftedTouchNoWire() {
        sentence("(Axles that are lifted touch no wire.)");
        RollScales x = scales("5+2*5+2*5+2*5");
        // By 4 they come at the ticks 0, 1, 1 and 2.
        int[] times = {3, 2, 3, 2, 3, 2, 2, 1, 2, 1, 2, 1, 2, 1, 1};
        for (int up = 0; up < 15; up++) {
            for (int axle = 0; axle < 4; axle++) {
                x.lift(0, axle, false);
            }
            for (int axle = 0; axle < 4; axle++) {
                x.lift(0, axle, (up >> axle & 1) == 1);
            }
            due("lifted ones " + up, x.runOf(0, 4, 6), times[up]);
        }
    }

    private static void tooLongAheadOfTheOthers() {
        sentence("A run tells a weight if it can, otherwise the first of these reasons:");
        // Each 20 places an axle comes or leaves, so that the readings swing all the time.
        RollScales x = scales("200+40*200+40*200+40*200+40*200", 20, 100, 95, 9, 0);
        due("181 ticks, no level", x.runOf(0, 1, 3), 0);
        due("1 ahead of 2", x.runOf(0, 1, 1), 1);
        due("1 ahead of 2, run", x.run(0, 1), -11);
        due("91 ticks, no level", x.runOf(0, 2, 3), 0);
        due("2", x.run(0, 2), -12);
        RollScales y = scales("5+40*5+40*6", 41, 0, 0, 1, 0);
        due("122 ticks, the greatest level", y.runOf(0, 1, 4), 11);
        due("1 ahead of 3", y.run(0, 1), -11);
        due("62 ticks", y.run(0, 2), -13);
    }

    private static void noLevelWasTold() {
        sentence("2 no level was told;");
        RollScales x = scales("21", 10, 0, 0, 3, 20);
        due("21, 21 and 0", x.runOf(0, 9, 1), 2);
        due("run", x.run(0, 9), -12);
        due("weight", x.runOf(0, 9, 0), NONE);
        x.load(0, 0, 20);
        due("20, 20 and 0", x.runOf(0, 9, 1), 0);
        due("run", x.run(0, 9), 13);
        x.set(3, 4);
        due("three readings, window 4", x.run(0, 9), -12);
    }

    private static void allWereOnThePlate() {
        sentence("3 the greatest level was told (for the first time) at a tick at which not all axles that are down were on the plate,");
        RollScales x = scales("5+20*6", 21, 0, 0, 1, 0);
        due("the first one at 20 of 21, the last one at 0", x.run(0, 1), 11);
        x.set(0, 20);
        due("the first one at 20 of 20", x.run(0, 1), -13);
        x.set(0, 22);
        x.set(3, 2);
        due("told at the tick 21, the first one at 21 of 22", x.run(0, 1), 11);
        x.set(0, 21);
        due("on the plate for one tick, of a window of 2", x.run(0, 1), -13);
        // 21 and 20 are a level of 20, at the tick 21 at which the first one has just left.
        RollScales left = scales("1+20*20", 21, 0, 0, 2, 1);
        due("its tick", left.runOf(0, 1, 8), 21);
        due("its level", left.runOf(0, 1, 4), 20);
        due("the first one at 21 of 21", left.run(0, 1), -13);
        left.set(0, 22);
        due("the first one at 21 of 22", left.run(0, 1), 21);
        RollScales up = scales("5+20*6+20*7", 21, 0, 0, 1, 0);
        due("three on 21", up.run(0, 1), -13);
        up.lift(0, 2, true);
        due("the one that is lifted need not be on it", up.run(0, 1), 18);
    }

    private static void moreThanOneTickOfAxles() {
        sentence("and more than one tick of axles was told by the wires.");
        // The loads are 1, 3 and 0, and then 0, 3 and 0: a level of 1 at the tick 2, when all have left.
        RollScales x = scales("1+2*1+2*1", 10, 0, 0, 3, 20);
        due("two ticks of axles", x.runOf(0, 9, 6), 2);
        due("its tick", x.runOf(0, 9, 8), 2);
        due("reason", x.run(0, 9), -13);
        x.lift(0, 0, true);
        due("one tick of two axles", x.runOf(0, 9, 6), 1);
        due("its tick", x.runOf(0, 9, 8), 2);
        due("weight", x.run(0, 9), 1);
        RollScales one = scales("10", 10, 0, 0, 3, 20);
        due("one axle, that has left", one.run(0, 9), 6);
        RollScales down = lifted(scales("10+2*2", 10, 0, 0, 3, 20), 1);
        due("one axle that is down, that has left", down.run(0, 9), 8);
    }

    private static void forTheFirstTime() {
        sentence("8 for the tick at which the greatest level was told for the first time (NONE without one)");
        // The readings are 100, 50, 50 and 100: the first 100 is a swing of the first axle alone.
        RollScales x = scales("50+6*50", 40, 100, 0, 1, 0);
        due("tick 0", x.tick(0, 2, 0, 4), 100);
        due("tick 1", x.tick(0, 2, 1, 4), 50);
        due("tick 3, both are on the plate", x.tick(0, 2, 3, 4), 100);
        due("its tick", x.runOf(0, 2, 8), 0);
        due("the greatest one", x.runOf(0, 2, 4), 100);
        due("reason", x.run(0, 2), -13);
        x.load(0, 1, 51);
        due("a greater one, when both are", x.runOf(0, 2, 8), 3);
        due("weight", x.run(0, 2), 101);
        x.load(0, 1, 49);
        due("a lesser one, when both are", x.runOf(0, 2, 8), 0);
        due("reason", x.run(0, 2), -13);
    }

    private static void greatestLevel() {
        sentence("The weight is the greatest level that was told.");
        RollScales first = scales("50", 10, 100, 0, 1, 0);
        due("levels 100, 50 and 0", first.runOf(0, 5, 3), 3);
        due("not the last one", first.run(0, 5), 100);
        RollScales middle = scales("5+4*6", 10, 0, 0, 1, 0);
        due("levels 5, 11, 6 and 0", middle.runOf(0, 2, 3), 4);
        due("neither the first one nor the last one", middle.run(0, 2), 11);
        RollScales most = lifted(scales("200+2*200+2*200+2*200+2*200", 10, 100, 95, 1, 0), 0, 1, 2, 3);
        due("at the tick 1 the swing is not told", most.run(0, 9), 1000);
        most.lift(0, 0, false);
        due("two are down, one has 200", most.runOf(0, 9, 8), 1);
        due("both are on the plate", most.run(0, 9), 1000);
    }

    private static void weightOf0() {
        sentence("A run that tells a weight can be the tare of its cart.");
        RollScales x = scales("1", 10, 0, 0, 3, 20);
        due("1, 1 and 0 are 0 (0.7)", x.run(0, 9), 0);
        due("it is a weight", x.cartOf(0, 5), 0);
        due("no reason", x.runOf(0, 9, 1), 0);
        due("level", x.runOf(0, 9, 4), 0);
        due("one level", x.runOf(0, 9, 3), 1);
        due("it was told", x.count(2), 1);
        dueFloat("off", x.off(0, 9), -1.0f);
        due("no net without a tare", x.cartOf(0, 6), NONE);
        due("a tare of 0", x.tare(0), 0);
        due("it is a tare", x.cartOf(0, 4), 0);
        due("carts with a tare", x.count(3), 1);
        due("as much already", x.tare(0), NONE);
        due("net", x.cartOf(0, 6), 1000);
        x.set(3, 4);
        due("a run that tells none", x.run(0, 9), -12);
        due("it can't be the tare", x.tare(0), NOT_POSSIBLE);
        due("the tare stays", x.cartOf(0, 4), 0);
        due("no net without a weight", x.cartOf(0, 6), NONE);
    }

    private static void rises() {
        sentence("the sum of all levels' rises: of each level that is greater than the one told before it, or than 0, by how much;");
        RollScales apart = scales("5+20*7", 10, 0, 0, 1, 0);
        due("5, 0, 7 and 0", apart.runOf(0, 2, 7), 12);
        // Levels 100 150 50 110 60 0: 110 is less than the greatest one, and rises by 60 all the same.
        RollScales both = scales("100+4*50+8*60", 10, 0, 0, 1, 0);
        due("levels", both.runOf(0, 2, 3), 6);
        due("reason", both.runOf(0, 2, 1), 3);
        due("100, 50 and 60", both.runOf(0, 2, 7), 210);
        // Levels 0 10 0 7 0: the first one is 0, and is no rise.
        RollScales nothing = lifted(scales("4+20*6+20*7", 10, 0, 0, 1, 0), 0);
        due("levels", nothing.runOf(0, 2, 3), 5);
        due("10 and 7", nothing.runOf(0, 2, 7), 17);
        RollScales bound = scales("20+20*20", 10, 0, 0, 1, 19);
        due("by more than the bound", bound.runOf(0, 2, 7), 40);
        bound.set(4, 20);
        due("20 alone, as 0 after it is not told", bound.runOf(0, 2, 3), 1);
        due("told when one of two was on the plate", bound.runOf(0, 2, 1), 3);
        due("one rise of two axles", bound.runOf(0, 2, 7), NONE);
    }

    private static void asManyRises() {
        sentence("only if as many levels rise as times of axles were told.)");
        RollScales x = scales("50+20*60", 10, 100, 0, 1, 0);
        // Levels 100 50 0 120 60 0: two rises of two axles.
        due("reason", x.runOf(0, 5, 1), 3);
        due("as many", x.runOf(0, 5, 7), 220);
        // Levels 10 and 3 in windows of 2: one rise of two axles.
        RollScales fewer = scales("10+8*3", 10, 0, 0, 2, 0);
        due("reason", fewer.runOf(0, 2, 1), 3);
        due("levels", fewer.runOf(0, 2, 3), 2);
        due("fewer", fewer.runOf(0, 2, 7), NONE);
        // Readings 100 50 6 50 88 ... of the first one alone: more rises than two axles.
        RollScales more = scales("50+40*60", 20, 100, 95, 1, 0);
        due("times", more.runOf(0, 5, 6), 2);
        due("reason", more.runOf(0, 5, 1), 3);
        due("tick 2", more.tick(0, 5, 2, 4), 6);
        due("tick 3", more.tick(0, 5, 3, 4), 50);
        due("tick 4", more.tick(0, 5, 4, 4), 88);
        due("more", more.runOf(0, 5, 7), NONE);
        // Two axles of one tick rise once, and are one time of axles.
        RollScales once = scales("5+30*3+2*4", 10, 0, 0, 1, 0);
        due("times", once.runOf(0, 8, 6), 2);
        due("reason", once.runOf(0, 8, 1), 3);
        due("5 and 7", once.runOf(0, 8, 7), 12);
        due("by 1 they are three", once.runOf(0, 1, 7), 12);
    }

    private static void reason3Alone() {
        sentence("7 for the weight of the axles (with the reason 3 alone; NONE if it cannot be told)");
        RollScales x = scales("5+20*7", 10, 0, 0, 1, 0);
        due("reason 3", x.runOf(0, 2, 7), 12);
        x.set(0, 40);
        due("reason 0", x.runOf(0, 2, 1), 0);
        due("reason 0", x.runOf(0, 2, 7), NONE);
        RollScales one = scales("5", 10, 0, 0, 1, 0);
        due("one axle, one rise, reason 0", one.runOf(0, 2, 7), NONE);
        one.set(3, 9);
        due("reason 2", one.runOf(0, 9, 1), 2);
        due("reason 2", one.runOf(0, 9, 7), NONE);
        RollScales slow = scales("5+40*6+40*7+40*8", 10, 0, 0, 1, 0);
        due("reason 1", slow.runOf(0, 1, 1), 1);
        due("reason 1", slow.runOf(0, 1, 7), NONE);
        due("reason 3", slow.runOf(0, 2, 7), 26);
    }

    private static void keptAndTold() {
        sentence("A run can be kept: it is the latest of its cart then.");
        RollScales x = scales("30;40", 10, 0, 0, 1, 0);
        due("no run", x.cartOf(0, 5), NONE);
        due("first", x.run(0, 9), 30);
        x.load(0, 0, 31);
        due("it stays as it was", x.cartOf(0, 5), 30);
        due("second", x.run(0, 8), 31);
        due("the latest", x.cartOf(0, 5), 31);
        due("the latest speed", x.cartOf(0, 7), 8);
        x.set(3, 9);
        due("settings do not change it", x.cartOf(0, 5), 31);
        due("third, that tells none", x.run(0, 7), -12);
        due("the latest tells none", x.cartOf(0, 5), NONE);
        due("the latest speed", x.cartOf(0, 7), 7);
        due("the other cart has none", x.cartOf(1, 7), NONE);
        due("runs", x.count(1), 3);
        due("runs that told", x.count(2), 2);
        x.undo();
        due("runs after undo", x.count(1), 2);
        due("runs that told after undo", x.count(2), 2);
        due("the latest one again", x.cartOf(0, 5), 31);
    }

    private static void offByHowMuch() {
        sentence("Returns the weight that is told less that of the cart, as a float, divided by that of the cart, as a float;");
        RollScales x = scales("1;3;7;200", 10, 100, 0, 1, 0);
        for (int cart = 0; cart < 4; cart++) {
            dueFloat("twice as much", x.off(cart, 9), 1.0f);
        }
        x.set(1, 50);
        dueFloat("1 of 3 more", x.off(1, 9), (float) 1 / (float) 3);
        dueFloat("3 of 7 more", x.off(2, 9), (float) 3 / (float) 7);
        dueFloat("0 of 1 more", x.off(0, 9), 0.0f);
        RollScales below = scales("1;3;7;10", 10, 0, 0, 3, 20);
        dueFloat("all of 1 less", below.off(0, 9), -1.0f);
        dueFloat("1 of 3 less", below.off(1, 9), (float) -1 / (float) 3);
        dueFloat("3 of 7 less", below.off(2, 9), (float) -3 / (float) 7);
        dueFloat("4 of 10 less", below.off(3, 9), (float) -4 / (float) 10);
    }

    private static void offWithoutWeight() {
        sentence("2.0f if there is no such cart or speed, or none is told.");
        RollScales x = scales("50;50+40*50+40*50;5+20*6", 20, 0, 0, 1, 0);
        int[] none = {LEAST, -1, 3, 6, MOST};
        for (int cart : none) {
            dueFloat("cart " + cart, x.off(cart, 5), 2.0f);
        }
        int[] out = {LEAST, -1, 0, 10, MOST};
        for (int speed : out) {
            dueFloat("speed " + speed, x.off(0, speed), 2.0f);
        }
        dueFloat("told", x.off(0, 5), 0.0f);
        x.set(0, 50);
        dueFloat("reason 1", x.off(1, 1), 2.0f);
        x.set(0, 20);
        dueFloat("reason 3", x.off(2, 1), 2.0f);
        x.set(3, 9);
        dueFloat("reason 2", x.off(0, 9), 2.0f);
    }

    private static void byTheBoundAtMost() {
        sentence("Finds the greatest speed with which a weight is told that differs from that of the cart by the bound at most.");
        // The tick 0 tells 200 and the swing.
        RollScales x = scales("200", 10, 10, 0, 1, 20);
        due("20 more, bound 20", x.fastest(0), 9);
        due("20 more, bound 20, window", x.leastWindow(0, 9), 1);
        due("20 more, bound 20, plate", x.shortestPlate(0, 9), 10);
        x.set(4, 19);
        due("20 more, bound 19", x.fastest(0), NONE);
        x.set(4, 0);
        x.set(1, 0);
        due("none more, bound 0", x.fastest(0), 9);
        x.set(1, 1);
        due("2 more, bound 0", x.fastest(0), NONE);
        // At the tick 2 it is 110 less a swing of 20; 110 after 90 is no more than the bound.
        RollScales less = scales("10+4*100", 10, 20, 0, 1, 20);
        due("told", less.runOf(0, 2, 0), 90);
        due("20 less, bound 20", less.leastWindow(0, 2), 1);
        less.set(4, 19);
        due("19: 110 is told", less.runOf(0, 2, 0), 110);
    }

    private static void farBelow() {
        sentence("Finds the least window with which such a weight is told.");
        // Both are on the plate at the tick 2 alone, of which 30 swing away: 100 of 130 are told.
        RollScales x = scales("30+8*100", 10, 30, 0, 1, 20);
        due("told", x.runOf(0, 4, 0), 100);
        due("30 less, bound 20", x.leastWindow(0, 4), NONE);
        x.load(0, 0, 20);
        x.set(1, 20);
        due("told", x.runOf(0, 4, 0), 100);
        due("20 less, bound 20", x.leastWindow(0, 4), 1);
    }

    private static void greatestSpeed() {
        sentence("Returns the speed; UNKNOWN; NONE if there is none.");
        RollScales x = scales("60", 10, 40, 0, 9, 0);
        due("1, the least", x.fastest(0), 1);
        x.set(0, 30);
        // The tick 0 swings, so that ten ticks have to be on the plate: 9 * 3 is less than 30, 9 * 4 is not.
        due("3", x.fastest(0), 3);
        x.set(0, 90);
        due("9, the greatest", x.fastest(0), 9);
        x.set(0, 82);
        due("9 by a plate of 82, at 81 at the tick 9", x.fastest(0), 9);
        x.set(0, 81);
        due("8 by a plate of 81", x.fastest(0), 8);
        x.set(3, 1);
        due("none", x.fastest(0), NONE);
        due("the speed of no run is changed", x.cartOf(0, 7), NONE);
        RollScales slow = scales("5+40*5+40*5", 90, 0, 0, 1, 0);
        due("by 2 it is not too long", slow.runOf(0, 1, 1), 1);
        due("the greatest one", slow.fastest(0), 9);
    }

    private static void leastOfTheWindows() {
        sentence("Returns the window, 1 to 9; UNKNOWN; BAD_VALUE; NONE if there is none.");
        RollScales x = scales("60", 40, 0, 0, 9, 0);
        due("1, the least", x.leastWindow(0, 9), 1);
        due("the window stays", x.count(9), 9);
        x.set(1, 40);
        due("2, as the tick 0 swings", x.leastWindow(0, 9), 2);
        x.set(2, 95);
        due("none", x.leastWindow(0, 9), NONE);
        due("the window stays", x.count(9), 9);
        // The second axle comes at the tick 8: a lesser window tells the first one, and then no other level.
        RollScales late = scales("50+40*1", 90, 0, 0, 1, 1);
        due("9, the greatest", late.leastWindow(0, 5), 9);
        due("8 by 6, at the tick 7", late.leastWindow(0, 6), 8);
        RollScales later = scales("50+40*1", 90, 0, 0, 1, 0);
        due("bound 0", later.leastWindow(0, 5), 1);
        later.set(4, 1);
        due("none by 4, at the tick 10", later.leastWindow(0, 4), NONE);
    }

    private static void shortestOfThePlates() {
        sentence("Returns the setting 0, 10 to 90; UNKNOWN; BAD_VALUE; NONE if there is none.");
        RollScales one = scales("60", 90, 0, 0, 1, 0);
        due("10, the least", one.shortestPlate(0, 1), 10);
        due("the plate stays", one.count(6), 90);
        one.set(3, 9);
        due("nine ticks by 9: at 72", one.shortestPlate(0, 9), 73);
        RollScales most = scales("5+40*6+40*7+9*8", 40, 0, 0, 1, 0);
        due("at 8 the last one comes at 96", most.shortestPlate(0, 8), NONE);
        due("the plate stays", most.count(6), 40);
        // The first one is lifted: the last one, 99 behind it, comes at the tick 11, when the second one is at 89.
        RollScales all = lifted(scales("5+10*5+40*5+40*5+9*5", 40, 0, 0, 1, 0), 0);
        due("90, the greatest", all.shortestPlate(0, 9), 90);
        RollScales longer = lifted(scales("5+9*5+40*5+40*5+10*5", 40, 0, 0, 1, 0), 0);
        due("at 90 on a plate of 90", longer.shortestPlate(0, 9), NONE);
    }

    private static void noneThatIsTooLong() {
        sentence("Finds the shortest plate with which such a weight is told.");
        RollScales x = scales("5+40*5+40*5+29*5;5+40*5+40*5+30*5", 90, 0, 0, 1, 20);
        // At 1 the first cart has 120 ticks on a plate of 10, and the second one 121; neither is ever on it whole.
        due("119, told when one was on the plate", x.shortestPlate(0, 1), NONE);
        due("120, too long on each plate", x.shortestPlate(1, 1), NONE);
        RollScales late = lifted(scales("5+40*5+40*5+30*5", 90, 0, 0, 1, 0), 0, 1, 2);
        due("one is down, too long on each plate", late.shortestPlate(0, 1), NONE);
        due("by 2 it is not", late.shortestPlate(0, 2), 10);
        due("too long with each window", late.leastWindow(0, 1), NONE);
        due("by 2 it is not", late.leastWindow(0, 2), 1);
        RollScales barely = lifted(scales("5+40*5+40*5+29*5", 90, 0, 0, 1, 0), 0, 1, 2);
        due("on a plate of 10 it is not", barely.shortestPlate(0, 1), 10);
        due("on a plate of 90 it is", barely.leastWindow(0, 1), NONE);
        barely.set(0, 10);
        due("on a plate of 10 it is not", barely.leastWindow(0, 1), 1);
    }

    private static void noneThatTellsNoWeight() {
        sentence("Finds the greatest speed with which a weight is told");
        // A light cart, so that no number that stands for none is within the bound by chance.
        RollScales never = scales("5+40*5", 10, 0, 0, 1, 20);
        due("never whole on the plate", never.fastest(0), NONE);
        due("never whole on the plate, window", never.leastWindow(0, 9), NONE);
        RollScales first = scales("50+40*5", 10, 0, 0, 1, 5);
        due("the first one alone is told, and is near", first.runOf(0, 9, 4), 50);
        due("but it is no weight", first.fastest(0), NONE);
        RollScales longest = scales("1+40*1+40*1+40*1+40*1", 90, 0, 0, 1, 0);
        due("by 1 and 2 too long, else never whole", longest.fastest(0), NONE);
        RollScales zero = scales("1", 10, 0, 0, 3, 20);
        due("0 is a weight, and is near", zero.fastest(0), 9);
        due("it is told", zero.runOf(0, 9, 0), 0);
        zero.set(3, 9);
        due("by 2 there are six readings, by 1 eleven", zero.fastest(0), 1);
        due("by 2 no plate of less than 15 has nine readings", zero.shortestPlate(0, 2), 15);
    }
}
