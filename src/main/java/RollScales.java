/** Scales that settle while a cart still rolls. The document ../shared/DOC.md promises every answer. */
public final class RollScales {
    public static final int UNKNOWN = -1;
    public static final int BAD_VALUE = -2;
    public static final int FULL = -3;
    public static final int NOT_POSSIBLE = -4;
    public static final int NONE = -5;

    private static final int MOST_CARTS = 6;
    private static final int MOST_AXLES = 5;
    private static final int MOST_WEIGHT = 200;
    private static final int LEAST_DISTANCE = 2;
    private static final int MOST_DISTANCE = 40;
    private static final int MOST_SPEED = 9;
    private static final int MOST_TICKS = 120;
    private static final int MOST_CHARACTERS = 60;
    private static final int MOST_STATES = 4;
    private static final int HUNDREDTHS = 100;
    private static final int FAULT_BASE = -100;
    private static final int REASON_BASE = -10;
    private static final int NET_BASE = 1000;

    private static final int PLATE = 0;
    private static final int SWINGING = 1;
    private static final int LEFT_OF_SWING = 2;
    private static final int WINDOW = 3;
    private static final int BOUND = 4;
    private static final int WIRES = 5;
    private static final int SETTINGS = 6;
    private static final int[] LEAST_SETTING = {10, 0, 0, 1, 0, 4};
    private static final int[] MOST_SETTING = {90, 100, 95, 9, 20, 40};
    private static final int[] FIRST_SETTING = {40, 40, 60, 4, 3, 12};

    private static final int TOO_LONG = 1;
    private static final int NO_LEVEL = 2;
    private static final int NOT_WHOLE = 3;

    private final State now = new State();
    private final State snapshot = new State();
    private final History history = new History();
    private final CartText text = new CartText();
    private final Roll roll = new Roll();
    private final int[] trial = new int[SETTINGS];
    private boolean hasSnapshot;

    public RollScales() {
        hasSnapshot = false;
    }

    // ---- carts

    public int cart(int weight) {
        if (!isWeight(weight)) {
            return BAD_VALUE;
        }
        if (now.cartCount >= MOST_CARTS) {
            return FULL;
        }
        history.remember(now);
        now.addCart(weight);
        return now.cartCount - 1;
    }

    public int axle(int cart, int distance, int weight) {
        Cart found = now.findCart(cart);
        if (found == null) {
            return UNKNOWN;
        }
        if (!isDistance(distance) || !isWeight(weight)) {
            return BAD_VALUE;
        }
        if (found.axleCount >= MOST_AXLES) {
            return FULL;
        }
        history.remember(now);
        found.addAxle(distance, weight);
        return found.axleCount;
    }

    public int load(int cart, int axle, int weight) {
        Cart found = now.findCart(cart);
        if (found == null || !found.hasAxle(axle)) {
            return UNKNOWN;
        }
        if (!isWeight(weight)) {
            return BAD_VALUE;
        }
        int previous = found.weights[axle];
        if (previous == weight) {
            return NONE;
        }
        history.remember(now);
        found.weights[axle] = weight;
        return previous;
    }

    public int lift(int cart, int axle, boolean up) {
        Cart found = now.findCart(cart);
        if (found == null || !found.hasAxle(axle)) {
            return UNKNOWN;
        }
        boolean isUp = found.lifted[axle];
        if (up && !isUp && found.downCount() == 1) {
            return NOT_POSSIBLE;
        }
        if (up == isUp) {
            return NONE;
        }
        history.remember(now);
        found.lifted[axle] = up;
        return found.downCount();
    }

    public int carts() {
        text.read();
        if (text.faultAt != NONE) {
            return FAULT_BASE - text.faultAt;
        }
        if (now.cartCount + text.cartCount > MOST_CARTS) {
            return FULL;
        }
        history.remember(now);
        text.bringCarts(now);
        return text.cartCount;
    }

    // ---- runs

    public int run(int cart, int speed) {
        Cart found = now.findCart(cart);
        if (found == null) {
            return UNKNOWN;
        }
        if (!isSpeed(speed)) {
            return BAD_VALUE;
        }
        history.remember(now);
        roll.follow(found, speed, now.settings);
        int reason = roll.reason();
        found.latestSpeed = speed;
        found.latestWeight = roll.toldWeight();
        found.latestTimes = roll.wireTimes();
        now.runsKept++;
        if (reason != 0) {
            return REASON_BASE - reason;
        }
        now.runsTold++;
        return found.latestWeight;
    }

    public int tare(int cart) {
        Cart found = now.findCart(cart);
        if (found == null) {
            return UNKNOWN;
        }
        if (found.latestWeight == NONE) {
            return NOT_POSSIBLE;
        }
        if (found.tareWeight == found.latestWeight) {
            return NONE;
        }
        history.remember(now);
        found.tareWeight = found.latestWeight;
        return found.tareWeight;
    }

    public int set(int which, int value) {
        if (which < 0 || which >= SETTINGS) {
            return BAD_VALUE;
        }
        if (value < LEAST_SETTING[which] || value > MOST_SETTING[which]) {
            return BAD_VALUE;
        }
        int previous = now.settings[which];
        if (previous == value) {
            return NONE;
        }
        history.remember(now);
        now.settings[which] = value;
        return previous;
    }

    // ---- texts

    public int type(char character) {
        return text.addCharacter(character) ? text.characterCount : FULL;
    }

    public int clearText() {
        int previous = text.characterCount;
        text.characterCount = 0;
        return previous;
    }

    public int fault() {
        text.read();
        return text.faultAt;
    }

    // ---- history

    public int undo() {
        if (history.stateCount == 0) {
            return NONE;
        }
        history.recall(now);
        return history.stateCount;
    }

    public int keep() {
        snapshot.copyFrom(now);
        hasSnapshot = true;
        return now.cartCount;
    }

    public int restore() {
        if (!hasSnapshot) {
            return NONE;
        }
        history.remember(now);
        now.copyFrom(snapshot);
        return now.cartCount;
    }

    // ---- what is told

    public int cartOf(int cart, int what) {
        Cart found = now.findCart(cart);
        if (found == null) {
            return UNKNOWN;
        }
        switch (what) {
            case 0:
                return found.axleCount;
            case 1:
                return found.downCount();
            case 2:
                return found.wholeWeight();
            case 3:
                return found.wholeLength();
            case 4:
                return found.tareWeight;
            case 5:
                return found.latestWeight;
            case 6:
                return found.netAndBase();
            case 7:
                return found.latestSpeed;
            case 8:
                return found.latestTimes;
            default:
                return BAD_VALUE;
        }
    }

    public int axleOf(int cart, int axle, int what) {
        Cart found = now.findCart(cart);
        if (found == null || !found.hasAxle(axle)) {
            return UNKNOWN;
        }
        switch (what) {
            case 0:
                return found.weights[axle];
            case 1:
                return found.distances[axle];
            case 2:
                return found.lifted[axle] ? 1 : 0;
            case 3:
                return found.borneBy(axle);
            default:
                return BAD_VALUE;
        }
    }

    public int tick(int cart, int speed, int tick, int what) {
        Cart found = now.findCart(cart);
        if (found == null) {
            return UNKNOWN;
        }
        if (!isSpeed(speed)) {
            return BAD_VALUE;
        }
        roll.prepare(found, speed, now.settings);
        if (tick < 0 || tick >= roll.readingCount()) {
            return UNKNOWN;
        }
        roll.rollOver();
        switch (what) {
            case 0:
                return roll.loads[tick];
            case 1:
                return roll.swings[tick];
            case 2:
                return roll.readings[tick];
            case 3:
                return roll.settled[tick] ? 1 : 0;
            case 4:
                return roll.latestLevels[tick];
            default:
                return BAD_VALUE;
        }
    }

    public int runOf(int cart, int speed, int what) {
        Cart found = now.findCart(cart);
        if (found == null) {
            return UNKNOWN;
        }
        if (!isSpeed(speed)) {
            return BAD_VALUE;
        }
        roll.follow(found, speed, now.settings);
        switch (what) {
            case 0:
                return roll.toldWeight();
            case 1:
                return roll.reason();
            case 2:
                return roll.readingCount();
            case 3:
                return roll.levels.toldCount;
            case 4:
                return roll.levels.greatest;
            case 5:
                return roll.wireSpeed();
            case 6:
                return roll.wireTimes();
            case 7:
                return roll.weightByAxles();
            case 8:
                return roll.levels.greatestTick;
            default:
                return BAD_VALUE;
        }
    }

    public int count(int what) {
        switch (what) {
            case 0:
                return now.cartCount;
            case 1:
                return now.runsKept;
            case 2:
                return now.runsTold;
            case 3:
                return now.taredCount();
            case 4:
                return history.stateCount;
            case 5:
                return text.characterCount;
            default:
                return settingOf(what - 6);
        }
    }

    public float off(int cart, int speed) {
        Cart found = now.findCart(cart);
        if (found == null || !isSpeed(speed)) {
            return 2.0f;
        }
        roll.follow(found, speed, now.settings);
        int told = roll.toldWeight();
        int whole = found.wholeWeight();
        if (told == NONE || whole <= 0) {
            return 2.0f;
        }
        return (float) (told - whole) / (float) whole;
    }

    // ---- what would be

    public int fastest(int cart) {
        Cart found = now.findCart(cart);
        if (found == null) {
            return UNKNOWN;
        }
        for (int speed = MOST_SPEED; speed >= 1; speed--) {
            if (tellsNearly(found, speed, now.settings)) {
                return speed;
            }
        }
        return NONE;
    }

    public int leastWindow(int cart, int speed) {
        return leastSetting(cart, speed, WINDOW);
    }

    public int shortestPlate(int cart, int speed) {
        return leastSetting(cart, speed, PLATE);
    }

    // ---- what the calls share

    private static boolean isWeight(int weight) {
        return weight >= 1 && weight <= MOST_WEIGHT;
    }

    private static boolean isDistance(int distance) {
        return distance >= LEAST_DISTANCE && distance <= MOST_DISTANCE;
    }

    private static boolean isSpeed(int speed) {
        return speed >= 1 && speed <= MOST_SPEED;
    }

    private static int quotient(int number, int divisor) {
        return divisor <= 0 ? 0 : number / divisor;
    }

    private static int quotientUp(int number, int divisor) {
        return divisor <= 0 ? 0 : (number + divisor - 1) / divisor;
    }

    private int settingOf(int which) {
        return which < 0 || which >= SETTINGS ? BAD_VALUE : now.settings[which];
    }

    private int leastSetting(int cart, int speed, int which) {
        Cart found = now.findCart(cart);
        if (found == null) {
            return UNKNOWN;
        }
        if (!isSpeed(speed)) {
            return BAD_VALUE;
        }
        System.arraycopy(now.settings, 0, trial, 0, SETTINGS);
        for (int value = LEAST_SETTING[which]; value <= MOST_SETTING[which]; value++) {
            trial[which] = value;
            if (tellsNearly(found, speed, trial)) {
                return value;
            }
        }
        return NONE;
    }

    private boolean tellsNearly(Cart cart, int speed, int[] settings) {
        roll.prepare(cart, speed, settings);
        if (roll.isTooLong()) {
            return false;
        }
        roll.rollOver();
        int told = roll.toldWeight();
        return told != NONE && Math.abs(told - cart.wholeWeight()) <= settings[BOUND];
    }

    /** A cart, and what is left of its latest run and its tare; NONE stands for what it has not. */
    private static final class Cart {
        private final int[] weights = new int[MOST_AXLES];
        private final int[] distances = new int[MOST_AXLES];
        private final boolean[] lifted = new boolean[MOST_AXLES];
        private int axleCount;
        private int tareWeight;
        private int latestWeight;
        private int latestSpeed;
        private int latestTimes;

        void begin(int weight) {
            axleCount = 0;
            addAxle(0, weight);
            tareWeight = NONE;
            latestWeight = NONE;
            latestSpeed = NONE;
            latestTimes = NONE;
        }

        void addAxle(int distance, int weight) {
            if (axleCount >= MOST_AXLES) {
                return;
            }
            weights[axleCount] = weight;
            distances[axleCount] = distance;
            lifted[axleCount] = false;
            axleCount++;
        }

        boolean hasAxle(int axle) {
            return axle >= 0 && axle < axleCount;
        }

        int downCount() {
            int down = 0;
            for (int axle = 0; axle < axleCount; axle++) {
                down += lifted[axle] ? 0 : 1;
            }
            return down;
        }

        int wholeWeight() {
            int sum = 0;
            for (int axle = 0; axle < axleCount; axle++) {
                sum += weights[axle];
            }
            return sum;
        }

        int wholeLength() {
            int sum = 0;
            for (int axle = 0; axle < axleCount; axle++) {
                sum += distances[axle];
            }
            return sum;
        }

        int netAndBase() {
            if (tareWeight == NONE || latestWeight == NONE) {
                return NONE;
            }
            return latestWeight - tareWeight + NET_BASE;
        }

        int borneBy(int axle) {
            int sum = 0;
            for (int other = 0; other < axleCount; other++) {
                if (bearerOf(other) == axle) {
                    sum += weights[other];
                }
            }
            return sum;
        }

        private int bearerOf(int axle) {
            for (int behind = axle; behind < axleCount; behind++) {
                if (!lifted[behind]) {
                    return behind;
                }
            }
            for (int ahead = axle - 1; ahead >= 0; ahead--) {
                if (!lifted[ahead]) {
                    return ahead;
                }
            }
            return NONE;
        }

        void copyFrom(Cart other) {
            System.arraycopy(other.weights, 0, weights, 0, MOST_AXLES);
            System.arraycopy(other.distances, 0, distances, 0, MOST_AXLES);
            for (int axle = 0; axle < MOST_AXLES; axle++) {
                lifted[axle] = other.lifted[axle];
            }
            axleCount = other.axleCount;
            tareWeight = other.tareWeight;
            latestWeight = other.latestWeight;
            latestSpeed = other.latestSpeed;
            latestTimes = other.latestTimes;
        }
    }

    /** All that undo and restore bring back. Its carts are made once and used again. */
    private static final class State {
        private final Cart[] carts = new Cart[MOST_CARTS];
        private final int[] settings = new int[SETTINGS];
        private int cartCount;
        private int runsKept;
        private int runsTold;

        State() {
            for (int cart = 0; cart < MOST_CARTS; cart++) {
                carts[cart] = new Cart();
            }
            System.arraycopy(FIRST_SETTING, 0, settings, 0, SETTINGS);
        }

        Cart findCart(int cart) {
            return cart >= 0 && cart < cartCount ? carts[cart] : null;
        }

        void addCart(int weight) {
            if (cartCount >= MOST_CARTS) {
                return;
            }
            carts[cartCount].begin(weight);
            cartCount++;
        }

        void addAxleToLast(int distance, int weight) {
            Cart last = findCart(cartCount - 1);
            if (last != null) {
                last.addAxle(distance, weight);
            }
        }

        int taredCount() {
            int tared = 0;
            for (int cart = 0; cart < cartCount; cart++) {
                tared += carts[cart].tareWeight == NONE ? 0 : 1;
            }
            return tared;
        }

        void copyFrom(State other) {
            for (int cart = 0; cart < MOST_CARTS; cart++) {
                carts[cart].copyFrom(other.carts[cart]);
            }
            System.arraycopy(other.settings, 0, settings, 0, SETTINGS);
            cartCount = other.cartCount;
            runsKept = other.runsKept;
            runsTold = other.runsTold;
        }
    }

    /** The latest states, the oldest one first. */
    private static final class History {
        private final State[] states = new State[MOST_STATES];
        private int stateCount;

        History() {
            for (int place = 0; place < MOST_STATES; place++) {
                states[place] = new State();
            }
        }

        void remember(State state) {
            if (stateCount >= MOST_STATES) {
                dropOldest();
            }
            states[stateCount].copyFrom(state);
            stateCount++;
        }

        private void dropOldest() {
            State oldest = states[0];
            for (int place = 1; place < MOST_STATES; place++) {
                states[place - 1] = states[place];
            }
            states[MOST_STATES - 1] = oldest;
            stateCount = MOST_STATES - 1;
        }

        void recall(State state) {
            if (stateCount <= 0) {
                return;
            }
            stateCount--;
            state.copyFrom(states[stateCount]);
        }
    }

    /** The text, and what was read from it: its axles (those at a distance of 0 begin a cart) and its fault. */
    private static final class CartText {
        private final char[] characters = new char[MOST_CHARACTERS];
        private final int[] weights = new int[MOST_CHARACTERS];
        private final int[] distances = new int[MOST_CHARACTERS];
        private int characterCount;
        private int axleCount;
        private int cartCount;
        private int faultAt;
        private int number;
        private int distance;
        private int axlesOfCart;
        private boolean inDistance;

        boolean addCharacter(char character) {
            if (characterCount >= MOST_CHARACTERS) {
                return false;
            }
            characters[characterCount] = character;
            characterCount++;
            return true;
        }

        void read() {
            faultAt = NONE;
            axleCount = 0;
            cartCount = 0;
            beginCart();
            for (int place = 0; place < characterCount; place++) {
                if (!accepts(characters[place])) {
                    faultAt = place;
                    return;
                }
            }
            if (inDistance || !isWhole()) {
                faultAt = characterCount;
                return;
            }
            endAxle();
        }

        private void beginCart() {
            cartCount++;
            axlesOfCart = 1;
            distance = 0;
            beginNumber(false);
        }

        private void beginNumber(boolean ofDistance) {
            number = 0;
            inDistance = ofDistance;
        }

        private boolean isWhole() {
            return inDistance ? isDistance(number) : isWeight(number);
        }

        private void endAxle() {
            if (axleCount >= MOST_CHARACTERS) {
                return;
            }
            weights[axleCount] = number;
            distances[axleCount] = distance;
            axleCount++;
        }

        private boolean accepts(char character) {
            if (character >= '0' && character <= '9') {
                return acceptsDigit(character - '0');
            }
            if (!isWhole()) {
                return false;
            }
            return inDistance ? acceptsBehindDistance(character) : acceptsBehindWeight(character);
        }

        private boolean acceptsDigit(int digit) {
            int longer = number * 10 + digit;
            if (longer == 0 || longer > (inDistance ? MOST_DISTANCE : MOST_WEIGHT)) {
                return false;
            }
            number = longer;
            return true;
        }

        private boolean acceptsBehindDistance(char character) {
            if (character != '*') {
                return false;
            }
            distance = number;
            beginNumber(false);
            return true;
        }

        private boolean acceptsBehindWeight(char character) {
            if (character == ';') {
                endAxle();
                beginCart();
                return true;
            }
            if (character == '+' && axlesOfCart < MOST_AXLES) {
                endAxle();
                axlesOfCart++;
                beginNumber(true);
                return true;
            }
            return false;
        }

        void bringCarts(State state) {
            for (int axle = 0; axle < axleCount; axle++) {
                if (distances[axle] == 0) {
                    state.addCart(weights[axle]);
                } else {
                    state.addAxleToLast(distances[axle], weights[axle]);
                }
            }
        }
    }

    /** The levels that one run told so far. */
    private static final class Levels {
        private int toldCount;
        private int latest;
        private int greatest;
        private int greatestTick;
        private int riseCount;
        private int riseSum;

        void forget() {
            toldCount = 0;
            latest = NONE;
            greatest = NONE;
            greatestTick = NONE;
            riseCount = 0;
            riseSum = 0;
        }

        void offer(int mean, int tick, int bound) {
            if (toldCount > 0 && Math.abs(mean - latest) <= bound) {
                return;
            }
            int before = toldCount > 0 ? latest : 0;
            if (mean > before) {
                riseCount++;
                riseSum += mean - before;
            }
            if (toldCount == 0 || mean > greatest) {
                greatest = mean;
                greatestTick = tick;
            }
            latest = mean;
            toldCount++;
        }
    }

    /** One run of one cart, tick by tick. Its rows are made once and used again for each run. */
    private static final class Roll {
        private final int[] loads = new int[MOST_TICKS];
        private final int[] swings = new int[MOST_TICKS];
        private final int[] readings = new int[MOST_TICKS];
        private final boolean[] settled = new boolean[MOST_TICKS];
        private final int[] latestLevels = new int[MOST_TICKS];
        private final Levels levels = new Levels();
        private final int[] settings = new int[SETTINGS];
        private final int[] behindFirst = new int[MOST_AXLES];
        private final int[] borne = new int[MOST_AXLES];
        private final boolean[] lifted = new boolean[MOST_AXLES];
        private int axleCount;
        private int speed;
        private int tickCount;

        void follow(Cart cart, int newSpeed, int[] newSettings) {
            prepare(cart, newSpeed, newSettings);
            rollOver();
        }

        void prepare(Cart cart, int newSpeed, int[] newSettings) {
            speed = newSpeed;
            System.arraycopy(newSettings, 0, settings, 0, SETTINGS);
            axleCount = cart.axleCount;
            int behind = 0;
            for (int axle = 0; axle < axleCount; axle++) {
                behind += cart.distances[axle];
                behindFirst[axle] = behind;
                borne[axle] = cart.borneBy(axle);
                lifted[axle] = cart.lifted[axle];
            }
            int lastTick = quotientUp(settings[PLATE] + behind, speed);
            tickCount = lastTick + 1;
        }

        boolean isTooLong() {
            return tickCount > MOST_TICKS;
        }

        int readingCount() {
            return Math.min(tickCount, MOST_TICKS);
        }

        void rollOver() {
            levels.forget();
            int last = readingCount();
            for (int tick = 0; tick < last; tick++) {
                weigh(tick);
                settled[tick] = hasSettled(tick);
                if (settled[tick]) {
                    levels.offer(meanAt(tick), tick, settings[BOUND]);
                }
                latestLevels[tick] = levels.latest;
            }
        }

        private boolean isOnPlate(int axle, int tick) {
            int place = speed * tick - behindFirst[axle];
            return place >= 0 && place < settings[PLATE];
        }

        private int loadAt(int tick) {
            int sum = 0;
            for (int axle = 0; axle < axleCount; axle++) {
                if (isOnPlate(axle, tick)) {
                    sum += borne[axle];
                }
            }
            return sum;
        }

        private void weigh(int tick) {
            int load = loadAt(tick);
            int loadBefore = tick > 0 ? loads[tick - 1] : 0;
            int swingBefore = tick > 0 ? swings[tick - 1] : 0;
            int change = Math.abs(load - loadBefore);
            // Each of the two quotients is rounded down by itself, ahead of the sum.
            int swing = swingBefore * settings[LEFT_OF_SWING] / HUNDREDTHS
                    + change * settings[SWINGING] / HUNDREDTHS;
            loads[tick] = load;
            swings[tick] = swing;
            readings[tick] = readingOf(load, swing, tick);
        }

        private static int readingOf(int load, int swing, int tick) {
            switch (tick % 4) {
                case 0:
                    return load + swing;
                case 2:
                    return Math.max(load - swing, 0);
                default:
                    return load;
            }
        }

        private boolean hasSettled(int tick) {
            int first = tick - settings[WINDOW] + 1;
            if (first < 0) {
                return false;
            }
            int least = readings[tick];
            int most = readings[tick];
            for (int at = first; at < tick; at++) {
                least = Math.min(least, readings[at]);
                most = Math.max(most, readings[at]);
            }
            return most - least <= settings[BOUND];
        }

        private int meanAt(int tick) {
            int sum = 0;
            for (int at = Math.max(tick - settings[WINDOW] + 1, 0); at <= tick; at++) {
                sum += readings[at];
            }
            return quotient(sum, settings[WINDOW]);
        }

        int wireSpeed() {
            return quotient(settings[WIRES], quotientUp(settings[WIRES], speed));
        }

        int wireTimes() {
            int times = 0;
            int latest = NONE;
            for (int axle = 0; axle < axleCount; axle++) {
                int time = quotientUp(behindFirst[axle], speed);
                if (!lifted[axle] && time != latest) {
                    times++;
                    latest = time;
                }
            }
            return times;
        }

        private boolean isWholeOnPlate(int tick) {
            for (int axle = 0; axle < axleCount; axle++) {
                if (!lifted[axle] && !isOnPlate(axle, tick)) {
                    return false;
                }
            }
            return true;
        }

        int reason() {
            if (isTooLong()) {
                return TOO_LONG;
            }
            if (levels.toldCount == 0) {
                return NO_LEVEL;
            }
            if (!isWholeOnPlate(levels.greatestTick) && wireTimes() > 1) {
                return NOT_WHOLE;
            }
            return 0;
        }

        int toldWeight() {
            return reason() == 0 ? levels.greatest : NONE;
        }

        int weightByAxles() {
            return reason() == NOT_WHOLE && levels.riseCount == wireTimes() ? levels.riseSum : NONE;
        }
    }
}
