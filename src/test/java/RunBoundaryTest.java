/** The boundaries of runs, levels, wires, weights and searches: each sentence that names one has its own test. */
public final class RunBoundaryTest extends Sheet {
    public static void main(String[] args) {
        speeds();
        firstTick();
        onThePlate();
        behindTheFirst();
        loadOfThoseThatAreDown();
        endOfRun();
        endWithLiftedOnes();
        atMost120();
        longestRun();
        swingAheadOfTick0();
        swingWithoutSign();
        swingRoundedDown();
        tickModulo4();
        notBelow0();
        asManyAsTheWindow();
        latestSoMany();
        withinTheBound();
        meanRoundedDown();
        noLevelWasToldYet();
        moreThanTheBound();
        levelToldLast();
        ticksThatAreNot();
        end();
    }

    private static void speeds() {
        sentence("A cart runs with a speed (1 to 9) from the tick 0 on,");
        RollScales x = scales("7", 10, 0, 0, 1, 0);
        int[] out = {LEAST, LEAST + 1, -9, -1, 0, 10, 257, 65537, MOST - 1, MOST};
        for (int speed : out) {
            due("run(0, " + speed + ")", x.run(0, speed), BAD_VALUE);
            due("tick(0, " + speed + ", 0, 0)", x.tick(0, speed, 0, 0), BAD_VALUE);
            due("runOf(0, " + speed + ", 0)", x.runOf(0, speed, 0), BAD_VALUE);
            dueFloat("off(0, " + speed + ")", x.off(0, speed), 2.0f);
            due("leastWindow(0, " + speed + ")", x.leastWindow(0, speed), BAD_VALUE);
            due("shortestPlate(0, " + speed + ")", x.shortestPlate(0, speed), BAD_VALUE);
        }
        due("no run was kept", x.count(1), 0);
        int[] in = {1, 2, 8, 9};
        for (int speed : in) {
            due("run(0, " + speed + ")", x.run(0, speed), 7);
            due("its speed", x.cartOf(0, 7), speed);
            due("tick(0, " + speed + ", 0, 0)", x.tick(0, speed, 0, 0), 7);
            due("runOf(0, " + speed + ", 0)", x.runOf(0, speed, 0), 7);
            dueFloat("off(0, " + speed + ")", x.off(0, speed), 0.0f);
            due("leastWindow(0, " + speed + ")", x.leastWindow(0, speed), 1);
            due("shortestPlate(0, " + speed + ")", x.shortestPlate(0, speed), 10);
        }
        due("runs", x.count(1), 4);
    }

    private static void firstTick() {
        sentence("the first axle being at the beginning of the plate then: at the tick t the first axle is at the place speed * t,");
        RollScales x = scales("7+2*9", 10, 0, 0, 1, 0);
        due("the first axle is on the plate at the tick 0", x.tick(0, 9, 0, 0), 7);
        due("the second one is not", x.tick(0, 1, 0, 0), 7);
        due("at 9 both are at the tick 1", x.tick(0, 9, 1, 0), 16);
    }

    private static void onThePlate() {
        sentence("An axle is on the plate if its place is at least 0 and less than the setting 0.");
        RollScales x = scales("7+2*9", 10, 0, 0, 1, 0);
        // The first one is at 9 at the tick 9 and at 10 at the tick 10; the second one is at 0 at the tick 2.
        dueRow("load", x, 1, 0, 7, 7, 16, 16, 16, 16, 16, 16, 16, 16, 9, 9, 0);
        dueRow("at 5, places 0, 5, 10 and -2, 3, 8, 13", x, 5, 0, 7, 16, 9, 0);
        dueRow("at 9, places 0, 9, 18 and -2, 7, 16", x, 9, 0, 7, 16, 0);
        x.set(0, 11);
        dueRow("at 5, a plate of 11", x, 5, 0, 7, 16, 16, 0);
        RollScales most = scales("7", 90, 0, 0, 1, 0);
        due("at 89", most.tick(0, 1, 89, 0), 7);
        due("at 90", most.tick(0, 1, 90, 0), 0);
        due("at 81", most.tick(0, 9, 9, 0), 7);
        due("at 90, by 9", most.tick(0, 9, 10, 0), 0);
    }

    private static void behindTheFirst() {
        sentence("each other one by all the distances ahead of it farther back.");
        // Places at 1: t, t - 2, t - 5, t - 9 and t - 14.
        RollScales x = scales("1+2*2+3*4+4*8+5*16", 90, 0, 0, 1, 0);
        int[] want = {1, 1, 3, 3, 3, 7, 7, 7, 7, 15, 15, 15, 15, 15, 31, 31};
        for (int tick = 0; tick < want.length; tick++) {
            due("load at tick " + tick, x.tick(0, 1, tick, 0), want[tick]);
        }
        RollScales far = scales("1+40*2+40*4+40*8+40*16", 90, 0, 0, 1, 0);
        // Places at 9: 9 t less 0, 40, 80, 120 and 160; the last one comes at the tick 18, at 2, and leaves at 28.
        due("tick 4", far.tick(0, 9, 4, 0), 1);
        due("tick 5", far.tick(0, 9, 5, 0), 3);
        due("tick 8", far.tick(0, 9, 8, 0), 3);
        due("tick 9", far.tick(0, 9, 9, 0), 7);
        due("tick 10", far.tick(0, 9, 10, 0), 6);
        due("tick 17", far.tick(0, 9, 17, 0), 12);
        due("tick 18", far.tick(0, 9, 18, 0), 28);
        due("tick 27", far.tick(0, 9, 27, 0), 16);
        due("tick 28", far.tick(0, 9, 28, 0), 0);
    }

    private static void loadOfThoseThatAreDown() {
        sentence("The load at a tick is what the axles on the plate that are down bear, together.");
        RollScales x = scales("5+12*6", 10, 0, 0, 1, 0);
        dueRow("both are down", x, 4, 0, 5, 5, 5, 6, 6, 6, 0);
        x.lift(0, 0, true);
        dueRow("the second one bears 11", x, 4, 0, 0, 0, 0, 11, 11, 11, 0);
        x.lift(0, 0, false);
        x.lift(0, 1, true);
        dueRow("the first one bears 11", x, 4, 0, 11, 11, 11, 0, 0, 0, 0);
        RollScales most = lifted(scales("200+2*200+2*200+2*200+2*200", 10, 0, 0, 1, 0), 0, 1, 2, 3);
        dueRow("the last one bears 1000", most, 9, 0, 0, 1000, 0);
    }

    private static void endOfRun() {
        sentence("A run ends with the first tick at which no axle is on the plate any more");
        RollScales one = scales("7", 10, 0, 0, 1, 0);
        dueRow("at 1", one, 1, 0, 7, 7, 7, 7, 7, 7, 7, 7, 7, 7, 0);
        dueRow("at 5, the end is at 10", one, 5, 0, 7, 7, 0);
        dueRow("at 9, the end is at 18", one, 9, 0, 7, 7, 0);
        due("three readings", one.runOf(0, 9, 2), 3);
        // Between the two axles none is on the plate: that is no end, as not all have left it.
        RollScales gap = scales("7+40*9", 10, 0, 0, 1, 0);
        dueRow("a gap", gap, 9, 0, 7, 7, 0, 0, 0, 9, 0);
        due("seven readings", gap.runOf(0, 9, 2), 7);
        gap.load(0, 0, 1);
        due("50 of 1 each", gap.runOf(0, 1, 2), 51);
        due("50 by 5", gap.runOf(0, 5, 2), 11);
        due("50 by 7, rounded up", gap.runOf(0, 7, 2), 9);
    }

    private static void endWithLiftedOnes() {
        sentence("(all have left it, lifted ones, too);");
        RollScales x = lifted(scales("7+40*9", 10, 0, 0, 1, 0), 1);
        dueRow("the last one is lifted", x, 9, 0, 16, 16, 0, 0, 0, 0, 0);
        RollScales y = lifted(scales("7+40*9", 10, 0, 0, 1, 0), 0);
        dueRow("the first one is lifted", y, 9, 0, 0, 0, 0, 0, 0, 16, 0);
    }

    private static void atMost120() {
        sentence("there are readings for all ticks up to that one, with it, but at most 120.");
        RollScales x = scales("5+28*5;5+29*5;5+30*5;5+40*5", 90, 0, 0, 1, 0);
        int[] readings = {119, 120, 120, 120};
        for (int cart = 0; cart < 4; cart++) {
            due("readings of " + cart, x.runOf(cart, 1, 2), readings[cart]);
            due("the last one of " + cart, x.tick(cart, 1, readings[cart] - 1, 0), cart < 2 ? 0 : 5);
            due("the one behind it of " + cart, x.tick(cart, 1, readings[cart], 0), UNKNOWN);
        }
        due("119 less 1", x.tick(0, 1, 117, 0), 5);
        due("by 2", x.runOf(3, 2, 2), 66);
    }

    private static void longestRun() {
        sentence("1 it has more than 120 ticks;");
        RollScales x = scales("5+28*5;5+29*5;5+30*5", 90, 0, 0, 1, 0);
        due("119", x.runOf(0, 1, 1), 0);
        due("120", x.runOf(1, 1, 1), 0);
        due("120, run", x.run(1, 1), 10);
        due("121", x.runOf(2, 1, 1), 1);
        due("121, weight", x.runOf(2, 1, 0), NONE);
        due("121, levels are told", x.runOf(2, 1, 4), 10);
        due("121, run", x.run(2, 1), -11);
        due("121, kept", x.cartOf(2, 7), 1);
        RollScales wide = scales("5+40*5+40*5+40*5+40*5", 78, 0, 0, 1, 0);
        due("238 by 2", wide.runOf(0, 2, 2), 120);
        due("238 by 2: not too long", wide.runOf(0, 2, 1) == 1 ? 1 : 0, 0);
        wide.set(0, 79);
        due("239 by 2, rounded up", wide.runOf(0, 2, 1), 1);
        due("239 by 2, rounded up", wide.runOf(0, 2, 2), 120);
        wide.set(0, 90);
        due("250 by 1, the longest", wide.runOf(0, 1, 1), 1);
        due("250 by 1, the longest", wide.runOf(0, 1, 2), 120);
        due("250 by 3, rounded up", wide.runOf(0, 3, 2), 85);
        dueFloat("off of one that is too long", wide.off(0, 1), 2.0f);
    }

    private static void swingAheadOfTick0() {
        sentence("The swing of a tick is that of the tick before (0 ahead of the tick 0) times the setting 2, divided by 100,");
        RollScales x = scales("200", 10, 100, 95, 1, 0);
        // Left of 200 are 190, 180 (180.5), 171 and 162 (162.45); at the tick 5 153 (153.9), and 200 of the change.
        dueRow("95 are left", x, 2, 1, 200, 190, 180, 171, 162, 353);
        dueRow("reading", x, 2, 2, 400, 200, 20, 200, 362, 0);
        x.set(2, 0);
        dueRow("none is left", x, 2, 1, 200, 0, 0, 0, 0, 200);
        x.set(1, 0);
        dueRow("none swings", x, 2, 1, 0, 0, 0, 0, 0, 0);
        dueRow("reading", x, 2, 2, 200, 200, 200, 200, 200, 0);
        RollScales later = lifted(scales("100+12*100", 10, 100, 0, 1, 0), 0);
        dueRow("no load at the tick 0", later, 4, 1, 0, 0, 0, 200, 0, 0, 200);
    }

    private static void swingWithoutSign() {
        sentence("and the difference of the load and that of the tick before (0 ahead), without sign, times the setting 1, divided by 100, both together.");
        RollScales x = scales("100+10*40", 10, 50, 0, 1, 0);
        dueRow("load", x, 5, 0, 100, 100, 40, 40, 0);
        dueRow("up by 100, down by 60, down by 40", x, 5, 1, 50, 0, 30, 0, 20);
        dueRow("reading", x, 5, 2, 150, 100, 10, 40, 20);
        x.set(2, 50);
        dueRow("both together", x, 5, 1, 50, 25, 42, 21, 30);
    }

    private static void swingRoundedDown() {
        sentence("All quotients are rounded down.");
        RollScales x = scales("99;100;199;200", 10, 1, 0, 1, 0);
        int[] swings = {0, 1, 1, 2};
        for (int cart = 0; cart < 4; cart++) {
            due("a hundredth, cart " + cart, x.tick(cart, 5, 0, 1), swings[cart]);
        }
        x.set(1, 100);
        x.set(2, 1);
        for (int cart = 0; cart < 4; cart++) {
            due("a hundredth is left, cart " + cart, x.tick(cart, 5, 1, 1), swings[cart]);
        }
        RollScales falling = scales("5+10*4", 10, 50, 0, 1, 0);
        // Half of a change by 5 is 2, of one by -1 it is 0, of one by -4 it is 2.
        dueRow("down by 1", falling, 5, 1, 2, 0, 0, 0, 2);
        RollScales both = scales("3+5*1", 10, 50, 50, 1, 0);
        // Of 1 there is left 0 (0.5), of the change by 1 it is 0 (0.5): 0, and not 1 together.
        dueRow("one by one", both, 5, 1, 1, 0, 1, 0);
    }

    private static void tickModulo4() {
        sentence("The reading is the load and, as the tick modulo 4 is 0, 1, 2 or 3, the swing more, the same, the swing less, or the same,");
        RollScales x = scales("100", 10, 100, 90, 1, 0);
        // Swings: 100 90 81 72 64 57 51 45 40 36, and 32 and 100 at the end.
        dueRow("swing", x, 1, 1, 100, 90, 81, 72, 64, 57, 51, 45, 40, 36, 132);
        dueRow("reading", x, 1, 2, 200, 100, 19, 100, 164, 100, 49, 100, 140, 100, 0);
    }

    private static void notBelow0() {
        sentence("but 0 at least.");
        // At the tick 2 the first one has left and the second one is there: the load is 50, less the whole change.
        int[] first = {99, 100, 101, 200};
        int[] readings = {1, 0, 0, 0};
        for (int at = 0; at < first.length; at++) {
            RollScales x = scales(first[at] + "+10*50", 10, 100, 0, 1, 0);
            due("load of " + first[at], x.tick(0, 5, 2, 0), 50);
            due("swing of " + first[at], x.tick(0, 5, 2, 1), first[at] - 50);
            due("reading of " + first[at], x.tick(0, 5, 2, 2), readings[at]);
        }
    }

    private static void asManyAsTheWindow() {
        sentence("At a tick the readings have settled if there are as many as the window up to this tick,");
        for (int window = 1; window <= 9; window++) {
            RollScales x = scales("100", 10, 0, 0, window, 0);
            due("ahead of it, window " + window, x.tick(0, 1, Math.max(window - 2, 0), 3), window == 1 ? 1 : 0);
            due("as many, window " + window, x.tick(0, 1, window - 1, 3), 1);
            due("level, window " + window, x.runOf(0, 1, 8), window - 1);
            due("all ten are the same, window " + window, x.tick(0, 1, 9, 3), 1);
            due("the last reading is 0, window " + window, x.tick(0, 1, 10, 3), window == 1 ? 1 : 0);
        }
        // Three readings in all: 20, 20 and 0.
        RollScales few = scales("20", 10, 0, 0, 3, 20);
        dueRow("as many as there are", few, 9, 3, 0, 0, 1);
        few.set(3, 4);
        dueRow("one more than there are", few, 9, 3, 0, 0, 0);
        due("no level", few.runOf(0, 9, 3), 0);
        due("reason", few.runOf(0, 9, 1), 2);
    }

    private static void latestSoMany() {
        sentence("and the greatest of the latest so many and the least one of them differ by the bound at most;");
        RollScales x = scales("100+10*1", 10, 0, 0, 2, 0);
        dueRow("reading", x, 5, 2, 100, 100, 1, 1, 0);
        dueRow("older ones do not count", x, 5, 3, 0, 1, 0, 1, 0);
        RollScales y = scales("10+2*10", 10, 50, 0, 3, 0);
        dueRow("reading", y, 2, 2, 15, 20, 20, 20, 20, 10, 0);
        y.set(4, 4);
        due("15 20 20, bound 4", y.tick(0, 2, 2, 3), 0);
        due("20 20 20", y.tick(0, 2, 3, 3), 1);
        RollScales z = scales("50", 10, 10, 95, 3, 7);
        // Neither the first one nor the last one of the window is the least one.
        dueRow("reading", z, 2, 2, 55, 50, 47, 50, 51, 0);
        due("50 47 50, bound 7", z.tick(0, 2, 3, 3), 1);
        z.set(4, 2);
        due("50 47 50, bound 2", z.tick(0, 2, 3, 3), 0);
        z.set(4, 3);
        due("50 47 50, bound 3", z.tick(0, 2, 3, 3), 1);
        RollScales greatest = scales("50+8*9", 90, 0, 0, 3, 8);
        greatest.lift(0, 1, true);
        greatest.axle(0, 2, 1);
        // The last one bears 10; it comes at the tick 5, so that 50 50 60 are no window of a bound of 8.
        due("50 50 60, bound 8", greatest.tick(0, 2, 5, 3), 0);
        due("50 60 60, bound 8", greatest.tick(0, 2, 6, 3), 0);
        due("60 60 60, bound 8", greatest.tick(0, 2, 7, 3), 1);
    }

    private static void withinTheBound() {
        sentence("the least one of them differ by the bound at most;");
        // The readings are weight, weight and 0.
        int[] bounds = {0, 1, 3, 19, 20};
        for (int bound : bounds) {
            RollScales x = scales("1", 10, 0, 0, 3, bound);
            x.load(0, 0, Math.max(bound, 1));
            due("by " + Math.max(bound, 1) + ", bound " + bound, x.tick(0, 9, 2, 3), bound == 0 ? 0 : 1);
            x.load(0, 0, bound + 1);
            due("by " + (bound + 1) + ", bound " + bound, x.tick(0, 9, 2, 3), 0);
        }
        RollScales none = scales("200", 10, 0, 0, 2, 0);
        due("by 0, bound 0", none.tick(0, 9, 1, 3), 1);
    }

    private static void meanRoundedDown() {
        sentence("their mean is the sum divided by the window.");
        // The readings are 10, 11, 1 and 0.
        RollScales x = scales("10+9*1", 10, 0, 0, 2, 1);
        dueRow("10 and 11 are 10 (10.5), 1 and 0 are 0 (0.5)", x, 9, 4, NONE, 10, 10, 0);
        RollScales y = scales("20", 10, 0, 0, 3, 20);
        due("20, 20 and 0 are 13 (13.3)", y.runOf(0, 9, 4), 13);
        y.load(0, 0, 19);
        due("19, 19 and 0 are 12 (12.7)", y.runOf(0, 9, 4), 12);
        y.load(0, 0, 1);
        due("1, 1 and 0 are 0", y.runOf(0, 9, 4), 0);
        RollScales nine = scales("17", 10, 0, 0, 9, 17);
        due("six readings are too few", nine.runOf(0, 2, 4), NONE);
        nine.set(0, 16);
        due("eight times 17 and 0, of 9, are 15 (15.1)", nine.runOf(0, 2, 4), 15);
        due("a level at the last tick", nine.runOf(0, 2, 8), 8);
        due("its weight", nine.runOf(0, 2, 0), 15);
    }

    private static void noLevelWasToldYet() {
        sentence("A level is told when the readings have settled, and no level was told yet,");
        RollScales x = scales("3", 10, 0, 0, 1, 20);
        dueRow("the first one, by less than the bound from 0", x, 9, 4, 3, 3, 3);
        due("one level", x.runOf(0, 9, 3), 1);
        RollScales zero = lifted(scales("3+12*9", 10, 0, 0, 1, 0), 0);
        dueRow("a first level of 0", zero, 6, 4, 0, 0, 12, 12, 0);
        due("three levels", zero.runOf(0, 6, 3), 3);
        RollScales never = scales("200", 10, 100, 0, 2, 0);
        due("not settled, no level", never.tick(0, 9, 2, 4), NONE);
        due("no level", never.runOf(0, 9, 3), 0);
        due("no greatest one", never.runOf(0, 9, 4), NONE);
        due("no tick", never.runOf(0, 9, 8), NONE);
    }

    private static void moreThanTheBound() {
        sentence("or their mean differs from the level told last by more than the bound: it is the mean then.");
        RollScales up = scales("50+4*5", 90, 0, 0, 1, 5);
        due("up by 5, bound 5", up.tick(0, 2, 2, 4), 50);
        up.load(0, 1, 6);
        due("up by 6, bound 5", up.tick(0, 2, 2, 4), 56);
        // The loads are 5 5 55 55 55 50 50 0 as the first one leaves at the tick 5.
        RollScales down = scales("5+4*50", 10, 0, 0, 1, 5);
        dueRow("down by 5, bound 5", down, 2, 4, 5, 5, 55, 55, 55, 55, 55, 0);
        down.load(0, 0, 6);
        dueRow("down by 6, bound 5", down, 2, 4, 6, 6, 56, 56, 56, 50, 50, 0);
        RollScales none = scales("50+4*1", 90, 0, 0, 1, 0);
        due("up by 1, bound 0", none.tick(0, 2, 2, 4), 51);
        due("by 0, bound 0: one level each", none.runOf(0, 2, 3), 4);
        RollScales most = scales("50+4*20", 90, 0, 0, 1, 20);
        due("up by 20, bound 20", most.tick(0, 2, 2, 4), 50);
        most.load(0, 1, 21);
        due("up by 21, bound 20", most.tick(0, 2, 2, 4), 71);
    }

    private static void levelToldLast() {
        sentence("4 for the level told last up to this tick, with it (NONE without one)");
        RollScales creeping = scales("50+4*3+4*3", 90, 0, 0, 1, 3);
        due("53 is not told", creeping.tick(0, 2, 2, 4), 50);
        due("ahead of 56", creeping.tick(0, 2, 3, 4), 50);
        due("56 is by 6 from the level told last", creeping.tick(0, 2, 4, 4), 56);
        RollScales x = scales("100", 10, 0, 0, 2, 0);
        dueRow("with this tick", x, 5, 4, NONE, 100, 100);
        RollScales back = scales("50+4*4", 10, 0, 0, 1, 3);
        dueRow("told again after another one", back, 2, 4, 50, 50, 54, 54, 54, 4, 4, 0);
    }

    private static void ticksThatAreNot() {
        sentence("`tick`: 0 to the last one of the run for which there is a reading");
        RollScales x = scales("7;5+40*5", 90, 0, 0, 1, 0);
        int[] out = {LEAST, LEAST + 1, -120, -1, 11, 12, 119, 120, 256, 65536, MOST - 1, MOST};
        for (int tick : out) {
            for (int what = -1; what <= 5; what++) {
                due("tick " + tick + ", what " + what, x.tick(0, 9, tick, what), UNKNOWN);
            }
        }
        due("the last one", x.tick(0, 9, 10, 0), 0);
        due("the one ahead of it", x.tick(0, 9, 9, 0), 7);
        due("tick 119 of a run that is too long", x.tick(1, 1, 119, 0), 5);
        due("tick 120 of a run that is too long", x.tick(1, 1, 120, 0), UNKNOWN);
        due("tick 130, its end", x.tick(1, 1, 130, 0), UNKNOWN);
    }
}
