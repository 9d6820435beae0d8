import java.util.ArrayDeque;
import java.util.ArrayList;
import java.util.Deque;
import java.util.List;
import java.util.Optional;
import java.util.TreeMap;
import java.util.TreeSet;
import java.util.regex.Matcher;
import java.util.regex.Pattern;

/**
 * Long runs of calls, each answered by RollScales and by a second, slower program that was written from the
 * document alone: lists in place of rows, a regular expression in place of the reader, states that never change.
 */
public final class ModelTest {
    private static final int UNKNOWN = -1;
    private static final int BAD_VALUE = -2;
    private static final int FULL = -3;
    private static final int NOT_POSSIBLE = -4;
    private static final int NONE = -5;
    private static final int[][] RANGES = {{10, 90}, {0, 100}, {0, 95}, {1, 9}, {0, 20}, {4, 40}};

    private static long seed = 20261119L;
    private static int wrong = 0;
    private static int calls = 0;
    private static final TreeMap<String, Integer> seen = new TreeMap<>();

    /** A number from 0 to bound - 1, the same ones at each start. */
    private static int random(int bound) {
        seed = seed * 6364136223846793005L + 1442695040888963407L;
        return (int) ((seed >>> 33) % bound);
    }

    private static int between(int least, int most) {
        return least + random(most - least + 1);
    }

    record Axle(int distance, int weight, boolean up) { }

    record Kept(Integer weight, int speed, int times) { }

    record Cart(List<Axle> axles, Integer tare, Kept latest) {
        int weight() {
            return axles.stream().mapToInt(Axle::weight).sum();
        }

        long down() {
            return axles.stream().filter(a -> !a.up()).count();
        }

        Cart with(int axle, Axle other) {
            List<Axle> changed = new ArrayList<>(axles);
            if (axle == changed.size()) {
                changed.add(other);
            } else {
                changed.set(axle, other);
            }
            return new Cart(List.copyOf(changed), tare, latest);
        }
    }

    record All(List<Cart> carts, List<Integer> settings, int kept, int told) {
        All with(int cart, Cart other) {
            List<Cart> changed = new ArrayList<>(carts);
            if (cart == changed.size()) {
                changed.add(other);
            } else {
                changed.set(cart, other);
            }
            return new All(List.copyOf(changed), settings, kept, told);
        }
    }

    /** What a run tells, computed by the words of "A RUN", "LEVELS", "WIRES" and "WEIGHTS". */
    static final class Run {
        final List<Integer> loads = new ArrayList<>();
        final List<Integer> swings = new ArrayList<>();
        final List<Integer> readings = new ArrayList<>();
        final List<Boolean> settled = new ArrayList<>();
        final List<Optional<Integer>> told = new ArrayList<>();
        final List<Integer> levels = new ArrayList<>();
        final List<Integer> levelTicks = new ArrayList<>();
        final TreeSet<Integer> times = new TreeSet<>();
        int wireSpeed;
        int reason;
        int greatest = NONE;
        int greatestTick = NONE;
        int axleWeight = NONE;

        Run(Cart cart, int speed, List<Integer> s) {
            int ticks = 0;
            boolean more = true;
            while (more) {
                if (ticks < 120) {
                    oneTick(cart, speed, s, ticks);
                }
                more = false;
                for (int axle = 0; axle < cart.axles().size(); axle++) {
                    more |= place(cart, axle, speed, ticks) < s.get(0);
                }
                ticks++;
            }
            wires(cart, speed, s.get(5));
            weights(cart, speed, s.get(0), ticks);
        }

        static int place(Cart cart, int axle, int speed, int tick) {
            int place = speed * tick;
            for (Axle each : cart.axles().subList(1, axle + 1)) {
                place -= each.distance();
            }
            return place;
        }

        static boolean on(Cart cart, int axle, int speed, int tick, int plate) {
            int place = place(cart, axle, speed, tick);
            return 0 <= place && place < plate;
        }

        void oneTick(Cart cart, int speed, List<Integer> s, int tick) {
            int load = 0;
            for (int axle = 0; axle < cart.axles().size(); axle++) {
                if (on(cart, axle, speed, tick, s.get(0))) {
                    load += bears(cart).get(axle);
                }
            }
            int change = load - (tick == 0 ? 0 : loads.get(tick - 1));
            int swing = (tick == 0 ? 0 : swings.get(tick - 1)) * s.get(2) / 100;
            swing += (change < 0 ? -change : change) * s.get(1) / 100;
            loads.add(load);
            swings.add(swing);
            int[] part = {1, 0, -1, 0};
            int reading = load + part[tick % 4] * swing;
            readings.add(reading < 0 ? 0 : reading);
            oneLevel(s.get(3), s.get(4), tick);
        }

        void oneLevel(int window, int bound, int tick) {
            boolean still = false;
            if (readings.size() >= window) {
                List<Integer> latest = readings.subList(readings.size() - window, readings.size());
                TreeSet<Integer> sorted = new TreeSet<>(latest);
                still = sorted.last() - sorted.first() <= bound;
                int mean = latest.stream().mapToInt(i -> i).sum() / window;
                if (still && (levels.isEmpty() || Math.abs(levels.get(levels.size() - 1) - mean) > bound)) {
                    levels.add(mean);
                    levelTicks.add(tick);
                }
            }
            settled.add(still);
            told.add(levels.isEmpty() ? Optional.empty() : Optional.of(levels.get(levels.size() - 1)));
        }

        void wires(Cart cart, int speed, int apart) {
            for (int axle = 0; axle < cart.axles().size(); axle++) {
                int tick = 0;
                while (place(cart, axle, speed, tick) < 0) {
                    tick++;
                }
                if (!cart.axles().get(axle).up()) {
                    times.add(tick);
                }
            }
            int ticks = 0;
            while (ticks * speed < apart) {
                ticks++;
            }
            wireSpeed = apart / ticks;
        }

        void weights(Cart cart, int speed, int plate, int ticks) {
            for (int level : levels) {
                greatest = Math.max(greatest, level);
            }
            if (!levels.isEmpty()) {
                greatestTick = levelTicks.get(levels.indexOf(greatest));
            }
            boolean all = true;
            for (int axle = 0; axle < cart.axles().size() && !levels.isEmpty(); axle++) {
                all &= cart.axles().get(axle).up() || on(cart, axle, speed, greatestTick, plate);
            }
            reason = ticks > 120 ? 1 : levels.isEmpty() ? 2 : !all && times.size() > 1 ? 3 : 0;
            int rises = 0;
            int sum = 0;
            for (int i = 0; i < levels.size(); i++) {
                int rise = levels.get(i) - (i == 0 ? 0 : levels.get(i - 1));
                rises += rise > 0 ? 1 : 0;
                sum += Math.max(rise, 0);
            }
            axleWeight = reason == 3 && rises == times.size() ? sum : NONE;
        }

        Integer weight() {
            return reason == 0 ? Integer.valueOf(greatest) : null;
        }
    }

    static List<Integer> bears(Cart cart) {
        int axles = cart.axles().size();
        Integer[] borne = new Integer[axles];
        java.util.Arrays.fill(borne, 0);
        for (int axle = 0; axle < axles; axle++) {
            int bearer = -1;
            for (int other = axles - 1; other >= axle; other--) {
                bearer = cart.axles().get(other).up() ? bearer : other;
            }
            for (int other = 0; other < axle && bearer < axle; other++) {
                bearer = cart.axles().get(other).up() ? bearer : other;
            }
            borne[bearer] += cart.axles().get(axle).weight();
        }
        return List.of(borne);
    }

    /** The second program. */
    static final class Model {
        static final String WEIGHT = "(?:200|1[0-9][0-9]|[1-9][0-9]?)";
        static final String DISTANCE = "(?:40|[123][0-9]|[2-9])";
        static final String CART = WEIGHT + "(?:\\+" + DISTANCE + "\\*" + WEIGHT + "){0,4}";
        static final Pattern CARTS = Pattern.compile(CART + "(?:;" + CART + ")*");

        All all = new All(List.of(), List.of(40, 40, 60, 4, 3, 12), 0, 0);
        All snapshot;
        final Deque<All> history = new ArrayDeque<>();
        String text = "";

        void act(All next) {
            history.addLast(all);
            if (history.size() > 4) {
                history.removeFirst();
            }
            all = next;
        }

        boolean noCart(int cart) {
            return cart < 0 || cart >= all.carts().size();
        }

        boolean noAxle(int cart, int axle) {
            return noCart(cart) || axle < 0 || axle >= all.carts().get(cart).axles().size();
        }

        static boolean out(int value, int least, int most) {
            return value < least || value > most;
        }

        int cart(int weight) {
            if (out(weight, 1, 200)) {
                return BAD_VALUE;
            }
            int number = all.carts().size();
            if (number == 6) {
                return FULL;
            }
            act(all.with(number, new Cart(List.of(new Axle(0, weight, false)), null, null)));
            return number;
        }

        int axle(int cart, int distance, int weight) {
            if (noCart(cart)) {
                return UNKNOWN;
            }
            if (out(distance, 2, 40) || out(weight, 1, 200)) {
                return BAD_VALUE;
            }
            Cart c = all.carts().get(cart);
            int axles = c.axles().size();
            if (axles == 5) {
                return FULL;
            }
            act(all.with(cart, c.with(axles, new Axle(distance, weight, false))));
            return axles + 1;
        }

        int load(int cart, int axle, int weight) {
            if (noAxle(cart, axle)) {
                return UNKNOWN;
            }
            if (out(weight, 1, 200)) {
                return BAD_VALUE;
            }
            Cart c = all.carts().get(cart);
            Axle a = c.axles().get(axle);
            if (a.weight() == weight) {
                return NONE;
            }
            act(all.with(cart, c.with(axle, new Axle(a.distance(), weight, a.up()))));
            return a.weight();
        }

        int lift(int cart, int axle, boolean up) {
            if (noAxle(cart, axle)) {
                return UNKNOWN;
            }
            Cart c = all.carts().get(cart);
            Axle a = c.axles().get(axle);
            Cart next = c.with(axle, new Axle(a.distance(), a.weight(), up));
            if (next.down() == 0) {
                return NOT_POSSIBLE;
            }
            if (a.up() == up) {
                return NONE;
            }
            act(all.with(cart, next));
            return (int) next.down();
        }

        int fault() {
            for (int end = 1; end <= text.length(); end++) {
                Matcher m = CARTS.matcher(text.substring(0, end));
                if (!m.matches() && !m.hitEnd()) {
                    return end - 1;
                }
            }
            return CARTS.matcher(text).matches() ? NONE : text.length();
        }

        int carts() {
            if (fault() != NONE) {
                return -100 - fault();
            }
            String[] parts = text.split(";");
            if (all.carts().size() + parts.length > 6) {
                return FULL;
            }
            List<Cart> changed = new ArrayList<>(all.carts());
            for (String part : parts) {
                List<Axle> axles = new ArrayList<>();
                for (String one : part.split("\\+")) {
                    String[] numbers = (axles.isEmpty() ? "0*" + one : one).split("\\*");
                    axles.add(new Axle(Integer.parseInt(numbers[0]), Integer.parseInt(numbers[1]), false));
                }
                changed.add(new Cart(List.copyOf(axles), null, null));
            }
            act(new All(List.copyOf(changed), all.settings(), all.kept(), all.told()));
            return parts.length;
        }

        int run(int cart, int speed) {
            if (noCart(cart)) {
                return UNKNOWN;
            }
            if (out(speed, 1, 9)) {
                return BAD_VALUE;
            }
            Cart c = all.carts().get(cart);
            Run run = new Run(c, speed, all.settings());
            Kept kept = new Kept(run.weight(), speed, run.times.size());
            All next = all.with(cart, new Cart(c.axles(), c.tare(), kept));
            act(new All(next.carts(), next.settings(), all.kept() + 1, all.told() + (run.reason == 0 ? 1 : 0)));
            return run.reason == 0 ? run.greatest : -10 - run.reason;
        }

        int tare(int cart) {
            if (noCart(cart)) {
                return UNKNOWN;
            }
            Cart c = all.carts().get(cart);
            if (c.latest() == null || c.latest().weight() == null) {
                return NOT_POSSIBLE;
            }
            if (c.latest().weight().equals(c.tare())) {
                return NONE;
            }
            act(all.with(cart, new Cart(c.axles(), c.latest().weight(), c.latest())));
            return c.latest().weight();
        }

        static List<Integer> settingsWith(List<Integer> settings, int which, int value) {
            List<Integer> changed = new ArrayList<>(settings);
            changed.set(which, value);
            return List.copyOf(changed);
        }

        int set(int which, int value) {
            if (out(which, 0, 5) || out(value, RANGES[which][0], RANGES[which][1])) {
                return BAD_VALUE;
            }
            int previous = all.settings().get(which);
            if (previous == value) {
                return NONE;
            }
            act(new All(all.carts(), settingsWith(all.settings(), which, value), all.kept(), all.told()));
            return previous;
        }

        int type(char character) {
            if (text.length() == 60) {
                return FULL;
            }
            text += character;
            return text.length();
        }

        int clearText() {
            int length = text.length();
            text = "";
            return length;
        }

        int undo() {
            if (history.isEmpty()) {
                return NONE;
            }
            all = history.removeLast();
            return history.size();
        }

        int keep() {
            snapshot = all;
            return all.carts().size();
        }

        int restore() {
            if (snapshot == null) {
                return NONE;
            }
            act(snapshot);
            return all.carts().size();
        }

        static int orNone(Integer value) {
            return value == null ? NONE : value;
        }

        int cartOf(int cart, int what) {
            if (noCart(cart)) {
                return UNKNOWN;
            }
            Cart c = all.carts().get(cart);
            Kept k = c.latest();
            Integer weight = k == null ? null : k.weight();
            return switch (what) {
                case 0 -> c.axles().size();
                case 1 -> (int) c.down();
                case 2 -> c.weight();
                case 3 -> c.axles().stream().mapToInt(Axle::distance).sum();
                case 4 -> orNone(c.tare());
                case 5 -> orNone(weight);
                case 6 -> weight == null || c.tare() == null ? NONE : 1000 + weight - c.tare();
                case 7 -> k == null ? NONE : k.speed();
                case 8 -> k == null ? NONE : k.times();
                default -> BAD_VALUE;
            };
        }

        int axleOf(int cart, int axle, int what) {
            if (noAxle(cart, axle)) {
                return UNKNOWN;
            }
            Cart c = all.carts().get(cart);
            Axle a = c.axles().get(axle);
            return switch (what) {
                case 0 -> a.weight();
                case 1 -> a.distance();
                case 2 -> a.up() ? 1 : 0;
                case 3 -> bears(c).get(axle);
                default -> BAD_VALUE;
            };
        }

        int tick(int cart, int speed, int tick, int what) {
            if (noCart(cart)) {
                return UNKNOWN;
            }
            if (out(speed, 1, 9)) {
                return BAD_VALUE;
            }
            Run run = new Run(all.carts().get(cart), speed, all.settings());
            if (out(tick, 0, run.readings.size() - 1)) {
                return UNKNOWN;
            }
            return switch (what) {
                case 0 -> run.loads.get(tick);
                case 1 -> run.swings.get(tick);
                case 2 -> run.readings.get(tick);
                case 3 -> run.settled.get(tick) ? 1 : 0;
                case 4 -> run.told.get(tick).orElse(NONE);
                default -> BAD_VALUE;
            };
        }

        int runOf(int cart, int speed, int what) {
            if (noCart(cart)) {
                return UNKNOWN;
            }
            if (out(speed, 1, 9)) {
                return BAD_VALUE;
            }
            Run run = new Run(all.carts().get(cart), speed, all.settings());
            return switch (what) {
                case 0 -> orNone(run.weight());
                case 1 -> run.reason;
                case 2 -> run.readings.size();
                case 3 -> run.levels.size();
                case 4 -> run.greatest;
                case 5 -> run.wireSpeed;
                case 6 -> run.times.size();
                case 7 -> run.axleWeight;
                case 8 -> run.greatestTick;
                default -> BAD_VALUE;
            };
        }

        int count(int what) {
            return switch (what) {
                case 0 -> all.carts().size();
                case 1 -> all.kept();
                case 2 -> all.told();
                case 3 -> (int) all.carts().stream().filter(c -> c.tare() != null).count();
                case 4 -> history.size();
                case 5 -> text.length();
                case 6, 7, 8, 9, 10, 11 -> all.settings().get(what - 6);
                default -> BAD_VALUE;
            };
        }

        float off(int cart, int speed) {
            if (noCart(cart) || out(speed, 1, 9)) {
                return 2.0f;
            }
            Cart c = all.carts().get(cart);
            Integer told = new Run(c, speed, all.settings()).weight();
            return told == null ? 2.0f : (float) (told - c.weight()) / (float) c.weight();
        }

        boolean near(int cart, int speed, List<Integer> settings) {
            Cart c = all.carts().get(cart);
            Integer told = new Run(c, speed, settings).weight();
            return told != null && Math.abs(told - c.weight()) <= settings.get(4);
        }

        int fastest(int cart) {
            int found = noCart(cart) ? UNKNOWN : NONE;
            for (int speed = 1; speed <= 9 && found != UNKNOWN; speed++) {
                found = near(cart, speed, all.settings()) ? speed : found;
            }
            return found;
        }

        int least(int cart, int speed, int which) {
            if (noCart(cart)) {
                return UNKNOWN;
            }
            if (out(speed, 1, 9)) {
                return BAD_VALUE;
            }
            for (int value = RANGES[which][0]; value <= RANGES[which][1]; value++) {
                if (near(cart, speed, settingsWith(all.settings(), which, value))) {
                    return value;
                }
            }
            return NONE;
        }
    }

    private static void due(String call, float got, float want) {
        calls++;
        if (got != want) {
            wrong++;
            if (wrong <= 20) {
                System.out.println(call + " answered " + got + ", the second program says " + want);
            }
        }
        String name = call.substring(0, call.indexOf('('));
        String kind = want >= 0 ? "an answer" : want <= -100 ? "a fault" : String.valueOf((int) want);
        seen.merge(name + " " + kind, 1, Integer::sum);
    }

    private static int argument(int least, int most) {
        int pick = random(40);
        if (pick == 0) {
            return least - 1;
        }
        if (pick == 1) {
            return most + 1;
        }
        if (pick == 2) {
            return random(2) == 0 ? Integer.MIN_VALUE : Integer.MAX_VALUE;
        }
        return pick < 6 ? (random(2) == 0 ? least : most) : between(least, most);
    }

    private static void typeSome(RollScales x, Model m) {
        StringBuilder text = new StringBuilder();
        int carts = between(1, 3);
        for (int cart = 0; cart < carts; cart++) {
            text.append(cart == 0 ? "" : ";").append(between(1, 200));
            for (int axle = random(5); axle > 0; axle--) {
                text.append('+').append(between(2, 40)).append('*').append(between(1, 200));
            }
        }
        if (random(3) == 0 && text.length() > 1) {
            text.setCharAt(random(text.length()), "0123456789+*;x".charAt(random(14)));
        }
        if (random(8) == 0) {
            text.setLength(random(text.length()));
        }
        due("clearText()", x.clearText(), m.clearText());
        for (int i = 0; i < text.length(); i++) {
            due("type()", x.type(text.charAt(i)), m.type(text.charAt(i)));
        }
        due("fault() of " + text, x.fault(), m.fault());
        due("carts() of " + text, x.carts(), m.carts());
    }

    private static void change(RollScales x, Model m, int cart, int speed) {
        int which = argument(0, 5);
        int[] range = RANGES[Math.min(Math.max(which, 0), 5)];
        int a = argument(0, 4);
        int b = argument(1, 200);
        switch (random(12)) {
            case 0 -> due("cart(" + b + ")", x.cart(b), m.cart(b));
            case 1 -> due("axle()", x.axle(cart, 2 + b / 5, b), m.axle(cart, 2 + b / 5, b));
            case 2 -> {
                due("load()", x.load(cart, a, b), m.load(cart, a, b));
                due("load() again", x.load(cart, a, b), m.load(cart, a, b));
            }
            case 3, 4 -> due("lift()", x.lift(cart, a, b > 80), m.lift(cart, a, b > 80));
            case 5, 6 -> due("run()", x.run(cart, speed), m.run(cart, speed));
            case 7 -> due("tare()", x.tare(cart), m.tare(cart));
            case 8, 9 -> {
                int value = argument(range[0], range[1]);
                due("set(" + which + ", " + value + ")", x.set(which, value), m.set(which, value));
            }
            case 10 -> due("undo()", x.undo(), m.undo());
            default -> {
                if (random(2) == 0) {
                    due("keep()", x.keep(), m.keep());
                } else {
                    due("restore()", x.restore(), m.restore());
                }
            }
        }
    }

    private static void ask(RollScales x, Model m, int cart, int speed) {
        int what = argument(0, 8);
        int a = argument(0, 4);
        switch (random(9)) {
            case 0 -> due("cartOf(" + what + ")", x.cartOf(cart, what), m.cartOf(cart, what));
            case 1 -> due("axleOf(" + what + ")", x.axleOf(cart, a, what), m.axleOf(cart, a, what));
            case 2, 3 -> {
                int tick = argument(0, 60);
                due("tick(" + what + ")", x.tick(cart, speed, tick, what), m.tick(cart, speed, tick, what));
            }
            case 4 -> due("runOf(" + what + ")", x.runOf(cart, speed, what), m.runOf(cart, speed, what));
            case 5 -> due("count(" + what + ")", x.count(what), m.count(what));
            case 6 -> due("off()", x.off(cart, speed), m.off(cart, speed));
            case 7 -> due("fastest()", x.fastest(cart), m.fastest(cart));
            default -> {
                due("leastWindow()", x.leastWindow(cart, speed), m.least(cart, speed, 3));
                due("shortestPlate()", x.shortestPlate(cart, speed), m.least(cart, speed, 0));
            }
        }
    }

    /** Everything that can be asked about the state. */
    private static void askAll(RollScales x, Model m) {
        for (int what = 0; what < 12; what++) {
            due("count(" + what + ")", x.count(what), m.count(what));
        }
        for (int cart = 0; cart < 6; cart++) {
            for (int what = 0; what < 9; what++) {
                due("cartOf(" + what + ")", x.cartOf(cart, what), m.cartOf(cart, what));
                due("runOf(" + what + ")", x.runOf(cart, 1 + what, what), m.runOf(cart, 1 + what, what));
            }
            for (int at = 0; at < 20; at++) {
                due("axleOf(" + at % 4 + ")", x.axleOf(cart, at / 4, at % 4), m.axleOf(cart, at / 4, at % 4));
            }
        }
    }

    /** No object is asked more than 512 calls, of which the last 240 are askAll's and a text takes up to 98. */
    private static void oneObject() {
        int before = calls;
        RollScales x = new RollScales();
        Model m = new Model();
        if (random(3) > 0) {
            typeSome(x, m);
        }
        while (calls - before < 170) {
            int cart = argument(0, Math.max(0, m.all.carts().size() - 1));
            int speed = argument(1, 9);
            int kind = random(20);
            if (kind == 0) {
                typeSome(x, m);
            } else if (kind < 9) {
                change(x, m, cart, speed);
            } else {
                ask(x, m, cart, speed);
            }
        }
        askAll(x, m);
    }

    /** Every tick and number of runs with settings that settle easily, since most random ones tell nothing. */
    private static void oneRun() {
        int before = calls;
        RollScales x = new RollScales();
        Model m = new Model();
        typeSome(x, m);
        int[] settings = {between(10, 90), random(3) * random(40), random(90), between(1, 4), random(21), between(4, 40)};
        for (int which = 0; which < 6; which++) {
            due("set()", x.set(which, settings[which]), m.set(which, settings[which]));
        }
        for (int axle = 0; axle < 5; axle++) {
            boolean up = random(3) == 0;
            due("lift()", x.lift(0, axle, up), m.lift(0, axle, up));
        }
        int speed = between(1, 9);
        for (int what = 0; what < 9; what++) {
            due("runOf(" + what + ")", x.runOf(0, speed, what), m.runOf(0, speed, what));
        }
        for (int tick = 0; tick < 122 && calls - before < 500; tick += between(1, 6)) {
            for (int what = 0; what < 5; what++) {
                due("tick(" + what + ")", x.tick(0, speed, tick, what), m.tick(0, speed, tick, what));
            }
        }
        due("run()", x.run(0, speed), m.run(0, speed));
        due("off()", x.off(0, speed), m.off(0, speed));
        due("fastest()", x.fastest(0), m.fastest(0));
        due("leastWindow()", x.leastWindow(0, speed), m.least(0, speed, 3));
        due("shortestPlate()", x.shortestPlate(0, speed), m.least(0, speed, 0));
    }

    public static void main(String[] args) {
        for (int object = 0; object < 500; object++) {
            oneObject();
            oneRun();
        }
        String[] mustBeSeen = {"run an answer", "run -11", "run -12", "run -13", "runOf an answer", "tare an answer",
            "tare -4", "tare -5", "lift -4", "carts a fault", "carts -3", "carts an answer", "fastest an answer",
            "fastest -5", "leastWindow an answer", "leastWindow -5", "shortestPlate an answer", "shortestPlate -5",
            "cart -3", "axle -3", "tick -1", "tick -2", "tick -5", "restore -5", "undo -5", "load -5", "set -5"};
        for (String each : mustBeSeen) {
            if (!seen.containsKey(each)) {
                wrong++;
                System.out.println("never seen: " + each);
            }
        }
        System.out.println(calls + " calls compared, " + wrong + " wrong");
        if (wrong != 0) {
            System.exit(1);
        }
    }
}
