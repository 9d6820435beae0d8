import java.util.ArrayList;
import java.util.List;
import java.util.function.Supplier;
import java.util.function.ToIntFunction;

/** Refused calls, the order of the checks, the history and the snapshot: each sentence of them has its own test. */
public final class RefusalTest extends Sheet {
    private static final String LONGEST =
            "100+20*100+20*100+20*100+20*100;100+20*100+20*100+20*100+2*1";

    record Call(String name, ToIntFunction<RollScales> of, int want) { }

    public static void main(String[] args) {
        unknownCarts();
        whatThatIsNot();
        errorsInOrderOfChanges();
        errorsInOrderOfQuestions();
        noneOnlyWithoutError();
        changesNothingOfFull();
        changesNothingOfFew();
        changesNothingOfNew();
        questionsChangeNothing();
        atMost4States();
        latestState();
        eachActIsRecorded();
        runsWithoutWeightAreRecorded();
        noActs();
        emptyHistory();
        oneSnapshot();
        snapshotInPlace();
        snapshotStays();
        snapshotOfAll();
        anotherAxleInItsPlace();
        restoreIsAnAct();
        end();
    }

    /** Six carts, the first one of five axles of which one is down; runs, a tare, a snapshot and 60 characters. */
    private static RollScales full() {
        RollScales x = scales("10+2*20+3*30+4*40+5*50;60;70;80;90+6*9", 10, 0, 0, 1, 2, 4);
        x.keep();
        x.set(1, 100);
        x.run(4, 9);
        x.set(1, 0);
        lifted(x, 0, 1, 3, 4);
        x.cart(100);
        x.run(1, 9);
        x.tare(1);
        x.load(1, 0, 61);
        return typed(x, LONGEST);
    }

    /** Two carts, two states, a text, no snapshot. */
    private static RollScales few() {
        RollScales x = scales("30+5*40;7");
        x.lift(0, 0, true);
        return typed(x, "8+9*10;11");
    }

    private static RollScales withFault() {
        return typed(few(), "5;x");
    }

    private static void askCart(StringBuilder all, RollScales x, int cart) {
        for (int what = 0; what < 9; what++) {
            all.append(x.cartOf(cart, what)).append(' ');
        }
        for (int at = 0; at < 20; at++) {
            all.append(x.axleOf(cart, at / 4, at % 4)).append(' ');
        }
        all.append(x.runOf(cart, 3, 0)).append(' ').append(x.runOf(cart, 9, 4)).append('\n');
    }

    /** All that can be asked of the state; the history and the text only if they are asked for. */
    private static String askAll(RollScales x, boolean wholly) {
        StringBuilder all = new StringBuilder();
        for (int what = 0; what < 12; what++) {
            if (wholly || what != 4 && what != 5) {
                all.append(x.count(what)).append(' ');
            }
        }
        all.append(wholly ? x.fault() : 0).append('\n');
        for (int cart = 0; cart < 6; cart++) {
            askCart(all, x, cart);
        }
        return all.toString();
    }

    private static void undo(RollScales x, int times) {
        for (int time = 0; time < times; time++) {
            x.undo();
        }
    }

    private static void same(String what, String got, String want) {
        due(what + ": all that can be asked", got.equals(want) ? 1 : 0, 1);
    }

    private static void changesNothing(Supplier<RollScales> make, Call call) {
        for (int undone = 0; undone <= 4; undone++) {
            RollScales x = make.get();
            RollScales y = make.get();
            due(call.name(), call.of().applyAsInt(x), call.want());
            undo(x, undone);
            undo(y, undone);
            same(call.name() + ", " + undone + " times undone", askAll(x, true), askAll(y, true));
        }
        RollScales x = make.get();
        RollScales y = make.get();
        call.of().applyAsInt(x);
        due(call.name() + ", restored", x.restore(), y.restore());
        same(call.name() + ", restored", askAll(x, true), askAll(y, true));
        x = make.get();
        y = make.get();
        call.of().applyAsInt(x);
        undo(x, 4);
        undo(y, 4);
        due(call.name() + ", carts of the text", x.carts(), y.carts());
        same(call.name() + ", carts of the text", askAll(x, true), askAll(y, true));
    }

    private static void changeNothing(Supplier<RollScales> make, List<Call> calls) {
        for (Call call : calls) {
            changesNothing(make, call);
        }
    }

    private static void unknownCarts() {
        sentence("There is no such cart, axle or tick.");
        for (int carts = 0; carts <= 6; carts += 3) {
            RollScales x = new RollScales();
            for (int cart = 0; cart < carts; cart++) {
                x.cart(5);
            }
            int[] none = {LEAST, LEAST + 1, -2, -1, carts, carts + 1, 6, 7, 256, 65536, MOST - 1, MOST};
            for (int cart : none) {
                String which = " of cart " + cart + " of " + carts;
                due("axle" + which, x.axle(cart, 2, 1), UNKNOWN);
                due("load" + which, x.load(cart, 0, 1), UNKNOWN);
                due("lift" + which, x.lift(cart, 0, true), UNKNOWN);
                due("letting down" + which, x.lift(cart, 0, false), UNKNOWN);
                due("run" + which, x.run(cart, 5), UNKNOWN);
                due("tare" + which, x.tare(cart), UNKNOWN);
                due("cartOf" + which, x.cartOf(cart, 0), UNKNOWN);
                due("axleOf" + which, x.axleOf(cart, 0, 0), UNKNOWN);
                due("tick" + which, x.tick(cart, 5, 0, 0), UNKNOWN);
                due("runOf" + which, x.runOf(cart, 5, 0), UNKNOWN);
                dueFloat("off" + which, x.off(cart, 5), 2.0f);
                due("fastest" + which, x.fastest(cart), UNKNOWN);
                due("leastWindow" + which, x.leastWindow(cart, 5), UNKNOWN);
                due("shortestPlate" + which, x.shortestPlate(cart, 5), UNKNOWN);
            }
            due("runs", x.count(1), 0);
        }
    }

    private static void whatThatIsNot() {
        sentence("Another argument is out of range.");
        RollScales x = few();
        int[] out = {LEAST, LEAST + 1, LEAST + 6, -256, -6, -1, 9, 10, 256, 65536, MOST - 1, MOST};
        for (int what : out) {
            due("cartOf " + what, x.cartOf(0, what), BAD_VALUE);
            due("axleOf " + what, x.axleOf(0, 1, what), BAD_VALUE);
            due("tick " + what, x.tick(0, 5, 0, what), BAD_VALUE);
            due("runOf " + what, x.runOf(0, 5, what), BAD_VALUE);
        }
        due("axleOf 3", x.axleOf(0, 1, 3), 70);
        due("axleOf 4", x.axleOf(0, 1, 4), BAD_VALUE);
        due("tick 4", x.tick(0, 5, 0, 4), NONE);
        due("tick 5", x.tick(0, 5, 0, 5), BAD_VALUE);
        due("cartOf 8", x.cartOf(0, 8), NONE);
        due("runOf 8", x.runOf(1, 5, 8) >= 0 ? 1 : 0, 1);
    }

    private static void errorsInOrderOfChanges() {
        sentence("Where several errors can apply, the order of the @return line is the order of the checks.");
        RollScales x = full();
        due("cart: value, full", x.cart(0), BAD_VALUE);
        due("cart: value, full", x.cart(201), BAD_VALUE);
        due("axle: cart, distance", x.axle(6, 1, 5), UNKNOWN);
        due("axle: cart, weight", x.axle(-1, 5, 201), UNKNOWN);
        due("axle: distance, full", x.axle(0, 41, 5), BAD_VALUE);
        due("axle: weight, full", x.axle(0, 5, 0), BAD_VALUE);
        due("load: cart, weight", x.load(6, 0, 0), UNKNOWN);
        due("load: axle, weight", x.load(0, 5, 201), UNKNOWN);
        due("load: cart, axle, weight", x.load(-1, -1, -1), UNKNOWN);
        due("lift: cart, axle", x.lift(6, 5, true), UNKNOWN);
        due("lift: axle of a cart of which one is down", x.lift(0, 5, true), UNKNOWN);
        due("lift: axle, none", x.lift(1, 1, false), UNKNOWN);
        due("run: cart, speed", x.run(6, 10), UNKNOWN);
        due("set: which, value", x.set(6, 0), BAD_VALUE);
        due("set: which, value of the setting 0", x.set(-1, 10), BAD_VALUE);
        due("carts: full", x.carts(), FULL);
        due("carts: fault, full", typed(x, "1;").carts(), -102);
        due("type after an error", x.type('1'), 3);
    }

    private static void errorsInOrderOfQuestions() {
        sentence("BAD_VALUE (speed, ahead of the tick, or what).");
        RollScales x = few();
        due("cart, speed, tick, what", x.tick(2, 0, -1, 5), UNKNOWN);
        due("cart, speed", x.tick(2, 0, 0, 0), UNKNOWN);
        due("cart, what", x.tick(2, 5, 0, 5), UNKNOWN);
        due("speed, tick, what", x.tick(0, 10, -1, 5), BAD_VALUE);
        due("speed, tick", x.tick(0, 0, 500, 0), BAD_VALUE);
        due("speed, what", x.tick(0, 0, 0, 5), BAD_VALUE);
        due("tick, what", x.tick(0, 5, 500, 5), UNKNOWN);
        due("tick", x.tick(0, 5, 500, 0), UNKNOWN);
        due("what", x.tick(0, 5, 0, 5), BAD_VALUE);
        sentence("Returns the number (for 0 NONE if none is told); UNKNOWN; BAD_VALUE.");
        due("runOf: cart, speed, what", x.runOf(2, 0, 9), UNKNOWN);
        due("runOf: cart, what", x.runOf(2, 5, 9), UNKNOWN);
        due("runOf: speed, what", x.runOf(0, 0, 9), BAD_VALUE);
        sentence("Returns the number; UNKNOWN; BAD_VALUE.");
        due("cartOf: cart, what", x.cartOf(2, 9), UNKNOWN);
        due("axleOf: cart, axle, what", x.axleOf(2, 2, 4), UNKNOWN);
        due("axleOf: axle, what", x.axleOf(0, 2, 4), UNKNOWN);
        due("leastWindow: cart, speed", x.leastWindow(2, 0), UNKNOWN);
        due("shortestPlate: cart, speed", x.shortestPlate(2, 10), UNKNOWN);
    }

    private static void noneOnlyWithoutError() {
        sentence("NONE is no error; it is returned only if no error applies.");
        RollScales x = scales("50", 10, 0, 0, 1, 0);
        due("run", x.run(0, 9), 50);
        due("tare", x.tare(0), 50);
        due("tare: none", x.tare(0), NONE);
        x.set(3, 9);
        due("run", x.run(0, 9), -12);
        due("tare: no weight, though it has that tare", x.tare(0), NOT_POSSIBLE);
        due("leastWindow: a speed, though none would be", x.leastWindow(0, 10), BAD_VALUE);
        due("shortestPlate: a speed, though none would be", x.shortestPlate(0, 0), BAD_VALUE);
        due("load: the same weight of no axle", x.load(0, 1, 50), UNKNOWN);
        due("lift: down already, no axle", x.lift(0, 1, false), UNKNOWN);
        due("cartOf: no net, and no such number", x.cartOf(0, 9), BAD_VALUE);
        due("tick: no level, and no such number", x.tick(0, 9, 0, 5), BAD_VALUE);
    }

    private static void changesNothingOfFull() {
        sentence("A call that returns an error or NONE changes nothing.");
        List<Call> calls = new ArrayList<>();
        calls.add(new Call("cart(0)", x -> x.cart(0), BAD_VALUE));
        calls.add(new Call("cart(201)", x -> x.cart(201), BAD_VALUE));
        calls.add(new Call("cart(5)", x -> x.cart(5), FULL));
        calls.add(new Call("axle(6, 5, 5)", x -> x.axle(6, 5, 5), UNKNOWN));
        calls.add(new Call("axle(1, 1, 5)", x -> x.axle(1, 1, 5), BAD_VALUE));
        calls.add(new Call("axle(1, 41, 5)", x -> x.axle(1, 41, 5), BAD_VALUE));
        calls.add(new Call("axle(1, 5, 0)", x -> x.axle(1, 5, 0), BAD_VALUE));
        calls.add(new Call("axle(0, 5, 5)", x -> x.axle(0, 5, 5), FULL));
        calls.add(new Call("load(6, 0, 5)", x -> x.load(6, 0, 5), UNKNOWN));
        calls.add(new Call("load(1, 1, 5)", x -> x.load(1, 1, 5), UNKNOWN));
        calls.add(new Call("load(1, 0, 201)", x -> x.load(1, 0, 201), BAD_VALUE));
        calls.add(new Call("load(1, 0, 61)", x -> x.load(1, 0, 61), NONE));
        calls.add(new Call("lift(6, 0, true)", x -> x.lift(6, 0, true), UNKNOWN));
        calls.add(new Call("lift(0, 5, true)", x -> x.lift(0, 5, true), UNKNOWN));
        calls.add(new Call("lift(0, 2, true)", x -> x.lift(0, 2, true), NOT_POSSIBLE));
        calls.add(new Call("lift(0, 2, false)", x -> x.lift(0, 2, false), NONE));
        calls.add(new Call("lift(0, 3, true)", x -> x.lift(0, 3, true), NONE));
        calls.add(new Call("carts()", x -> x.carts(), FULL));
        calls.add(new Call("run(6, 5)", x -> x.run(6, 5), UNKNOWN));
        calls.add(new Call("run(1, 0)", x -> x.run(1, 0), BAD_VALUE));
        calls.add(new Call("run(1, 10)", x -> x.run(1, 10), BAD_VALUE));
        calls.add(new Call("tare(6)", x -> x.tare(6), UNKNOWN));
        calls.add(new Call("tare(5), no run", x -> x.tare(5), NOT_POSSIBLE));
        calls.add(new Call("tare(4), no weight", x -> x.tare(4), NOT_POSSIBLE));
        calls.add(new Call("tare(1)", x -> x.tare(1), NONE));
        calls.add(new Call("set(-1, 10)", x -> x.set(-1, 10), BAD_VALUE));
        calls.add(new Call("set(6, 10)", x -> x.set(6, 10), BAD_VALUE));
        calls.add(new Call("set(0, 91)", x -> x.set(0, 91), BAD_VALUE));
        calls.add(new Call("set(0, 10)", x -> x.set(0, 10), NONE));
        calls.add(new Call("type('1')", x -> x.type('1'), FULL));
        changeNothing(RefusalTest::full, calls);
    }

    private static void changesNothingOfFew() {
        sentence("A call that returns an error or NONE changes nothing.");
        List<Call> calls = new ArrayList<>();
        calls.add(new Call("restore()", x -> x.restore(), NONE));
        calls.add(new Call("tare(0)", x -> x.tare(0), NOT_POSSIBLE));
        calls.add(new Call("lift(0, 1, true)", x -> x.lift(0, 1, true), NOT_POSSIBLE));
        calls.add(new Call("lift(0, 0, true)", x -> x.lift(0, 0, true), NONE));
        calls.add(new Call("lift(1, 0, true)", x -> x.lift(1, 0, true), NOT_POSSIBLE));
        calls.add(new Call("load(0, 1, 40)", x -> x.load(0, 1, 40), NONE));
        calls.add(new Call("axle(2, 5, 5)", x -> x.axle(2, 5, 5), UNKNOWN));
        calls.add(new Call("run(2, 5)", x -> x.run(2, 5), UNKNOWN));
        calls.add(new Call("set(5, 12)", x -> x.set(5, 12), NONE));
        calls.add(new Call("fastest(2)", x -> x.fastest(2), UNKNOWN));
        changeNothing(RefusalTest::few, calls);
        changesNothing(RefusalTest::withFault, new Call("carts()", x -> x.carts(), -102));
        changesNothing(RefusalTest::withFault, new Call("fault()", x -> x.fault(), 2));
    }

    private static void changesNothingOfNew() {
        sentence("A call that returns an error or NONE changes nothing.");
        List<Call> calls = new ArrayList<>();
        calls.add(new Call("undo()", x -> x.undo(), NONE));
        calls.add(new Call("restore()", x -> x.restore(), NONE));
        calls.add(new Call("carts()", x -> x.carts(), -100));
        calls.add(new Call("clearText()", x -> x.clearText(), 0));
        calls.add(new Call("cart(0)", x -> x.cart(0), BAD_VALUE));
        calls.add(new Call("axle(0, 5, 5)", x -> x.axle(0, 5, 5), UNKNOWN));
        calls.add(new Call("run(0, 5)", x -> x.run(0, 5), UNKNOWN));
        calls.add(new Call("tare(0)", x -> x.tare(0), UNKNOWN));
        calls.add(new Call("set(3, 0)", x -> x.set(3, 0), BAD_VALUE));
        changeNothing(RollScales::new, calls);
    }

    private static void questionsChangeNothing() {
        sentence("Each call of a method that is described as an act,");
        List<Call> calls = new ArrayList<>();
        calls.add(new Call("fault()", x -> x.fault(), NONE));
        calls.add(new Call("cartOf(1, 6)", x -> x.cartOf(1, 6), 1000));
        calls.add(new Call("axleOf(0, 2, 3)", x -> x.axleOf(0, 2, 3), 150));
        calls.add(new Call("axleOf(0, 2, 4)", x -> x.axleOf(0, 2, 4), BAD_VALUE));
        calls.add(new Call("tick(1, 9, 0, 2)", x -> x.tick(1, 9, 0, 2), 61));
        calls.add(new Call("tick(1, 9, 3, 2)", x -> x.tick(1, 9, 3, 2), UNKNOWN));
        calls.add(new Call("runOf(1, 9, 0)", x -> x.runOf(1, 9, 0), 61));
        calls.add(new Call("runOf(1, 9, 9)", x -> x.runOf(1, 9, 9), BAD_VALUE));
        calls.add(new Call("count(12)", x -> x.count(12), BAD_VALUE));
        calls.add(new Call("off(1, 9)", x -> x.off(1, 9) == 0.0f ? 1 : 0, 1));
        calls.add(new Call("off(1, 10)", x -> x.off(1, 10) == 2.0f ? 1 : 0, 1));
        calls.add(new Call("fastest(1)", x -> x.fastest(1), 9));
        calls.add(new Call("leastWindow(1, 9)", x -> x.leastWindow(1, 9), 1));
        calls.add(new Call("leastWindow(1, 10)", x -> x.leastWindow(1, 10), BAD_VALUE));
        calls.add(new Call("shortestPlate(1, 9)", x -> x.shortestPlate(1, 9), 10));
        calls.add(new Call("shortestPlate(6, 9)", x -> x.shortestPlate(6, 9), UNKNOWN));
        changeNothing(RefusalTest::full, calls);
    }

    private static void atMost4States() {
        sentence("A history of at most 4 states is kept; when one more is recorded, the oldest one is dropped;");
        RollScales x = new RollScales();
        due("none at first", x.count(4), 0);
        x.cart(1);
        for (int weight = 2; weight <= 10; weight++) {
            due("load", x.load(0, 0, weight), weight - 1);
            due("states", x.count(4), Math.min(weight, 4));
        }
        for (int left = 3; left >= 0; left--) {
            due("undo", x.undo(), left);
            due("states", x.count(4), left);
            due("weight", x.axleOf(0, 0, 0), 6 + left);
        }
        due("the older ones were dropped", x.undo(), NONE);
        due("weight", x.axleOf(0, 0, 0), 6);
        due("an act", x.load(0, 0, 100), 6);
        due("states", x.count(4), 1);
        due("undo", x.undo(), 0);
        due("weight", x.axleOf(0, 0, 0), 6);
        RollScales four = new RollScales();
        for (int number = 0; number < 4; number++) {
            four.cart(1);
        }
        undo(four, 4);
        due("four acts can be undone wholly", four.count(0), 0);
        RollScales five = new RollScales();
        for (int number = 0; number < 5; number++) {
            five.cart(1);
        }
        undo(five, 4);
        due("of five acts the first one stays", five.count(0), 1);
        due("no more", five.undo(), NONE);
    }

    private static void latestState() {
        sentence("undo() removes and restores the latest one.");
        RollScales x = scales("1", 10);
        x.load(0, 0, 2);
        x.load(0, 0, 3);
        due("undo", x.undo(), 3);
        due("2", x.axleOf(0, 0, 0), 2);
        due("another act in its place", x.load(0, 0, 4), 2);
        due("states", x.count(4), 4);
        due("undo", x.undo(), 3);
        due("2", x.axleOf(0, 0, 0), 2);
        due("undo", x.undo(), 2);
        due("1", x.axleOf(0, 0, 0), 1);
        due("undo", x.undo(), 1);
        due("no cart", x.axleOf(0, 0, 0), UNKNOWN);
        due("plate", x.count(6), 10);
        due("undo", x.undo(), 0);
        due("plate", x.count(6), 40);
        due("undo", x.undo(), NONE);
    }

    /** Two carts, a tare and a run that tells another weight; three states, so that there is room for one more. */
    private static RollScales beforeActs() {
        RollScales x = scales("50+2*60;70", 10, 0, 0, 1, 0);
        x.run(1, 7);
        x.tare(1);
        x.keep();
        undo(x, 4);
        x.restore();
        x.load(1, 0, 71);
        x.run(1, 6);
        return typed(x, "5;6+7*8");
    }

    private static void eachActIsRecorded() {
        sentence("and returns no error and not NONE, records the state that was before it.");
        List<Call> acts = new ArrayList<>();
        acts.add(new Call("cart(9)", x -> x.cart(9), 2));
        acts.add(new Call("axle(0, 2, 9)", x -> x.axle(0, 2, 9), 3));
        acts.add(new Call("load(0, 1, 9)", x -> x.load(0, 1, 9), 60));
        acts.add(new Call("lift(0, 0, true)", x -> x.lift(0, 0, true), 1));
        acts.add(new Call("carts()", x -> x.carts(), 2));
        acts.add(new Call("run(0, 9)", x -> x.run(0, 9), 110));
        acts.add(new Call("run(0, 5)", x -> x.run(0, 5), 110));
        acts.add(new Call("tare(1)", x -> x.tare(1), 71));
        acts.add(new Call("set(2, 95)", x -> x.set(2, 95), 0));
        acts.add(new Call("restore()", x -> x.restore(), 2));
        for (Call act : acts) {
            RollScales x = beforeActs();
            String before = askAll(x, true);
            due(act.name() + ", states before", x.count(4), 3);
            due(act.name(), act.of().applyAsInt(x), act.want());
            due(act.name() + ", states", x.count(4), 4);
            due(act.name() + ", changes", askAll(x, false).equals(askAll(beforeActs(), false)) ? 1 : 0, 0);
            due(act.name() + ", undone", x.undo(), 3);
            same(act.name() + ", undone", askAll(x, true), before);
        }
        RollScales x = few();
        String before = askAll(x, true);
        due("letting down", x.lift(0, 0, false), 2);
        due("undone", x.undo(), 2);
        same("letting down, undone", askAll(x, true), before);
    }

    private static void runsWithoutWeightAreRecorded() {
        sentence("-10 minus the reason 1 to 3 if none is told (which is no error: the run is kept);");
        RollScales x = scales("50+40*50+40*50", 50, 0, 0, 1, 0);
        String before = askAll(x, false);
        int[] speeds = {1, 2};
        int[] answers = {-11, -13};
        for (int at = 0; at < 2; at++) {
            due("run", x.run(0, speeds[at]), answers[at]);
            due("kept", x.count(1), 1);
            due("none told", x.count(2), 0);
            due("speed", x.cartOf(0, 7), speeds[at]);
            due("axles", x.cartOf(0, 8), 3);
            due("weight", x.cartOf(0, 5), NONE);
            due("undo", x.undo(), 3);
            same("run, undone", askAll(x, false), before);
        }
        RollScales none = new RollScales();
        none.cart(200);
        due("run", none.run(0, 9), -12);
        due("states", none.count(4), 2);
        due("kept", none.count(1), 1);
        due("undo", none.undo(), 1);
        due("none kept", none.count(1), 0);
        due("no speed", none.cartOf(0, 7), NONE);
    }

    private static void noActs() {
        sentence("`int type(char character)`: Appends a character to the text.");
        RollScales x = few();
        int states = x.count(4);
        due("type", x.type('1'), 10);
        due("states", x.count(4), states);
        sentence("`int clearText()`: Empties the text.");
        due("clearText", x.clearText(), 10);
        due("states", x.count(4), states);
        due("of the empty text", x.clearText(), 0);
        sentence("`int keep()`: Takes a snapshot of the state, in place of the one that was.");
        due("keep", x.keep(), 2);
        due("states", x.count(4), states);
        sentence("`int undo()`: Removes and restores the latest state of the history.");
        due("undo", x.undo(), states - 1);
        due("undo is none", x.count(4), states - 1);
        due("undo", x.undo(), states - 2);
        due("undo is none", x.count(4), states - 2);
    }

    private static void emptyHistory() {
        sentence("Returns the number of states that are left; NONE if the history is empty.");
        RollScales x = new RollScales();
        due("at first", x.undo(), NONE);
        due("again", x.undo(), NONE);
        x.cart(5);
        due("0 left, and no NONE", x.undo(), 0);
        due("empty", x.undo(), NONE);
        due("no cart", x.count(0), 0);
        x.cart(5);
        x.cart(0);
        x.load(0, 0, 5);
        due("refused calls are not there", x.undo(), 0);
        due("empty", x.undo(), NONE);
    }

    private static void oneSnapshot() {
        sentence("There is one snapshot, empty at first.");
        RollScales x = few();
        due("none", x.restore(), NONE);
        due("carts stay", x.count(0), 2);
        x.undo();
        due("none after undo", x.restore(), NONE);
        due("keep", x.keep(), 2);
        due("there is one", x.restore(), 2);
        RollScales none = new RollScales();
        due("keep of no carts", none.keep(), 0);
        due("it is one, though it has no carts", none.restore(), 0);
        due("an act", none.count(4), 1);
    }

    private static void snapshotInPlace() {
        sentence("in place of the one that was.");
        RollScales x = scales("1");
        due("1", x.keep(), 1);
        x.cart(2);
        due("2", x.keep(), 2);
        x.cart(3);
        due("restore", x.restore(), 2);
        due("carts", x.count(0), 2);
        x.undo();
        x.undo();
        x.undo();
        due("one cart", x.count(0), 1);
        due("the later one", x.restore(), 2);
        due("a fuller one", scales("1;2;3;4;5;6").keep(), 6);
    }

    private static void snapshotStays() {
        sentence("Restores the state of the snapshot, which stays.");
        RollScales x = scales("1;2");
        x.keep();
        for (int time = 0; time < 6; time++) {
            x.load(0, 0, 10 + time);
            x.cart(7);
            due("restore", x.restore(), 2);
            due("weight", x.axleOf(0, 0, 0), 1);
            due("no third one", x.cartOf(2, 0), UNKNOWN);
        }
        x.undo();
        due("undone", x.count(0), 3);
        due("undone", x.axleOf(0, 0, 0), 15);
        due("undo leaves it", x.restore(), 2);
        due("weight", x.axleOf(0, 0, 0), 1);
    }

    private static void snapshotOfAll() {
        sentence("A state is everything but the text, the history and the snapshot.");
        RollScales x = beforeActs();
        x.keep();
        String kept = askAll(x, false);
        x.axle(0, 5, 5);
        x.load(0, 1, 61);
        x.lift(0, 1, x.axleOf(0, 1, 2) == 0);
        x.load(1, 0, 99);
        x.run(1, 5);
        x.tare(1);
        x.run(0, 5);
        for (int which = 0; which < 6; which++) {
            x.set(which, 9 + which);
        }
        x.set(0, 11);
        x.set(3, 5);
        x.cart(9);
        due("all is another", askAll(x, false).equals(kept) ? 1 : 0, 0);
        int length = x.type('x');
        due("restore", x.restore(), 2);
        same("restored", askAll(x, false), kept);
        due("the text stays", x.count(5), length);
        due("the history stays, and has one more", x.count(4), 4);
        due("the state before it", x.undo(), 3);
        due("carts", x.count(0), 3);
        due("plate", x.count(6), 11);
    }

    private static void anotherAxleInItsPlace() {
        sentence("Restores the state of the snapshot, which stays.");
        RollScales x = scales("5+7*6+8*9");
        x.keep();
        x.undo();
        typed(x, "10+20*30+21*31;40").carts();
        due("the other distance", x.axleOf(0, 1, 1), 20);
        due("restore", x.restore(), 1);
        int[][] want = {{5, 0}, {6, 7}, {9, 8}};
        for (int axle = 0; axle < 3; axle++) {
            due("weight of " + axle, x.axleOf(0, axle, 0), want[axle][0]);
            due("distance of " + axle, x.axleOf(0, axle, 1), want[axle][1]);
        }
        due("length", x.cartOf(0, 3), 15);
        sentence("undo() removes and restores the latest one.");
        x.undo();
        due("the other distance again", x.axleOf(0, 1, 1), 20);
        due("length", x.cartOf(0, 3), 41);
    }

    private static void restoreIsAnAct() {
        sentence("Restores the state of the snapshot, which stays. This is an act.");
        RollScales x = scales("1");
        x.keep();
        due("states", x.count(4), 1);
        due("restore of the very same state", x.restore(), 1);
        due("states", x.count(4), 2);
        due("again", x.restore(), 1);
        due("states", x.count(4), 3);
        due("undo", x.undo(), 2);
        due("undo", x.undo(), 1);
        due("cart", x.count(0), 1);
        due("undo", x.undo(), 0);
        due("no cart", x.count(0), 0);
        due("restore of a cart", x.restore(), 1);
        due("its weight", x.cartOf(0, 2), 1);
        due("states", x.count(4), 1);
    }
}
