/**
 * Plans the sleep of a small device: states of sleep, votes, clocks, wakeups with slack, a governor,
 * a battery of two wells, and plans that are held against the best there is.
 */
public final class SleepPlanner {
    private static final int AWAKE = 0;
    private static final int DEEPEST = 3;
    private static final int DRIVERS = 6;
    private static final int HOURS = 24;
    private static final int TICKS_OF_HOUR = 60;

    private static final int MOST_POWER = 1000;
    private static final int MOST_COST = 10000;
    private static final int MOST_LATENCY = 100;
    private static final int MOST_DIVIDER = 64;
    private static final int MOST_AHEAD = 1000;
    private static final int MOST_SLACK = 500;
    private static final int MOST_WORK = 50;
    private static final int MOST_TICKS = 200;
    private static final int MOST_HARVEST = 1000;
    private static final int MOST_PLANNED = 400;

    private static final int RULE_OF_LATENCY = 0;
    private static final int RULE_OF_BREAK_EVEN = 1;
    private static final int RULE_OF_HISTORY = 2;

    /** Stands for a tick or a break-even that there is not. */
    private static final int NONE = -1;
    /** Far behind every tick that can come, and far below an overflow. */
    private static final int NO_END = 1000000000;

    private final States states;
    private final int[] votes;
    private final Clocks clocks;
    private final Jobs timers;
    private final Jobs events;
    private final IdleTimes idleTimes;
    private final Ledger ledger;
    private final Battery battery;
    private final Plans plans;
    private int rule;
    private int now;
    private int state;
    private int asleepSince;

    public SleepPlanner() {
        states = new States();
        votes = new int[] {DEEPEST, DEEPEST, DEEPEST, DEEPEST, DEEPEST, DEEPEST};
        clocks = new Clocks();
        timers = new Jobs();
        events = new Jobs();
        idleTimes = new IdleTimes();
        ledger = new Ledger();
        battery = new Battery();
        plans = new Plans();
        rule = RULE_OF_BREAK_EVEN;
        now = 0;
        state = AWAKE;
        asleepSince = 0;
    }

    // ---- states and depth

    public void setState(int state, int power, int cost, int latency) throws IllegalArgumentException {
        if (!isWithin(state, 1, DEEPEST) || !isWithin(power, 0, MOST_POWER)
                || !isWithin(cost, 0, MOST_COST) || !isWithin(latency, 0, MOST_LATENCY)) {
            throw new IllegalArgumentException("state, power, cost or latency is out of range");
        }
        wakeForCall();
        states.change(state, power, cost, latency);
    }

    public int setAwake(int power) throws IllegalArgumentException {
        if (!isWithin(power, 0, MOST_POWER)) {
            throw new IllegalArgumentException("power is out of range");
        }
        wakeForCall();
        int before = states.powerOf(AWAKE);
        states.change(AWAKE, power, 0, 0);
        return before;
    }

    public int vote(int driver, int state) throws IllegalArgumentException {
        if (!isWithin(driver, 0, DRIVERS - 1) || !isWithin(state, 0, DEEPEST)) {
            throw new IllegalArgumentException("driver or state is out of range");
        }
        wakeForCall();
        return exchange(votes, driver, state);
    }

    public int addClock(int parent, int divider, int deepest)
            throws IndexOutOfBoundsException, IllegalArgumentException, IllegalStateException {
        if (!clocks.has(parent)) {
            throw new IndexOutOfBoundsException("there is no clock parent");
        }
        if (!isWithin(divider, 1, MOST_DIVIDER) || !isWithin(deepest, 0, DEEPEST)) {
            throw new IllegalArgumentException("divider or deepest is out of range");
        }
        if (clocks.isFull()) {
            throw new IllegalStateException("there are 8 clocks");
        }
        wakeForCall();
        return clocks.add(parent, divider, deepest);
    }

    public int use(int clock) throws IndexOutOfBoundsException, IllegalStateException {
        if (!clocks.has(clock)) {
            throw new IndexOutOfBoundsException("there is no such clock");
        }
        if (clocks.usesOf(clock) >= Clocks.MOST_USES) {
            throw new IllegalStateException("the clock is used 9 times");
        }
        wakeForCall();
        return clocks.changeUses(clock, 1);
    }

    public int release(int clock) throws IndexOutOfBoundsException, IllegalStateException {
        if (!clocks.has(clock)) {
            throw new IndexOutOfBoundsException("there is no such clock");
        }
        if (clocks.usesOf(clock) <= 0) {
            throw new IllegalStateException("the clock is not used");
        }
        wakeForCall();
        return clocks.changeUses(clock, -1);
    }

    public boolean runs(int clock) throws IndexOutOfBoundsException {
        if (!clocks.has(clock)) {
            throw new IndexOutOfBoundsException("there is no such clock");
        }
        return clocks.isRunning(clock);
    }

    public int frequency(int clock) throws IndexOutOfBoundsException {
        if (!clocks.has(clock)) {
            throw new IndexOutOfBoundsException("there is no such clock");
        }
        return clocks.frequencyOf(clock);
    }

    public int depth() {
        int least = clocks.leastDeepest();
        for (int driver = 0; driver < votes.length; driver++) {
            least = Math.min(least, votes[driver]);
        }
        return least;
    }

    public int breakEven(int state) throws IllegalArgumentException {
        if (!isWithin(state, 1, DEEPEST)) {
            throw new IllegalArgumentException("state is out of range");
        }
        return states.leastWorthwhile(state);
    }

    // ---- wakeups

    public int schedule(int due, int slack, int work) throws IllegalArgumentException, IllegalStateException {
        if (!isWithin(due, now, now + MOST_AHEAD) || !isWithin(slack, 0, MOST_SLACK)
                || !isWithin(work, 1, MOST_WORK)) {
            throw new IllegalArgumentException("due, slack or work is out of range");
        }
        if (timers.isFull()) {
            throw new IllegalStateException("there are 12 timers");
        }
        wakeForCall();
        return timers.add(due, due + slack, work);
    }

    public int addEvent(int tick, int work) throws IllegalArgumentException, IllegalStateException {
        if (!isWithin(tick, now, now + MOST_AHEAD) || !isWithin(work, 1, MOST_WORK)) {
            throw new IllegalArgumentException("tick or work is out of range");
        }
        if (events.isFull()) {
            throw new IllegalStateException("12 events are to come");
        }
        return events.add(tick, tick, work);
    }

    public int setRule(int rule) throws IllegalArgumentException {
        if (!isWithin(rule, RULE_OF_LATENCY, RULE_OF_HISTORY)) {
            throw new IllegalArgumentException("rule is out of range");
        }
        wakeForCall();
        int before = this.rule;
        this.rule = rule;
        return before;
    }

    public int timers() {
        return timers.count;
    }

    public int nextWakeup() {
        return timers.leastLatest(NONE, NO_END);
    }

    // ---- playing

    public int play(int ticks) throws IllegalArgumentException {
        if (!isWithin(ticks, 1, MOST_TICKS)) {
            throw new IllegalArgumentException("ticks is out of range");
        }
        for (int played = 0; played < ticks; played++) {
            playTick();
        }
        return now;
    }

    public int now() {
        return now;
    }

    public int state() {
        return state;
    }

    // ---- the ledger

    public long spent() {
        return ledger.spent;
    }

    public int ticksIn(int state) throws IllegalArgumentException {
        if (!isWithin(state, AWAKE, DEEPEST)) {
            throw new IllegalArgumentException("state is out of range");
        }
        return read(ledger.ticksIn, state);
    }

    public int sleeps() {
        return ledger.sleeps;
    }

    public int lateness() {
        return ledger.lateness;
    }

    public int served() {
        return ledger.served;
    }

    // ---- the battery

    public int setHarvest(int hour, int energy) throws IllegalArgumentException {
        if (!isWithin(hour, 0, HOURS - 1) || !isWithin(energy, 0, MOST_HARVEST)) {
            throw new IllegalArgumentException("hour or energy is out of range");
        }
        return exchange(battery.harvest, hour, energy);
    }

    public int available() {
        return battery.available;
    }

    public int bound() {
        return battery.bound;
    }

    public int shortTicks() {
        return battery.shortTicks;
    }

    // ---- plans

    public int plannedWakeups(int until) throws IllegalArgumentException {
        if (!isWithin(until, now, now + MOST_PLANNED)) {
            throw new IllegalArgumentException("until is out of range");
        }
        return plans.countPlanned(timers, until);
    }

    public int fewestWakeups(int until) throws IllegalArgumentException {
        if (!isWithin(until, now, now + MOST_PLANNED)) {
            throw new IllegalArgumentException("until is out of range");
        }
        return plans.countFewest(timers, now, until);
    }

    public long plannedCost(int until) throws IllegalArgumentException {
        if (!isWithin(until, now, now + MOST_PLANNED)) {
            throw new IllegalArgumentException("until is out of range");
        }
        return plans.sumPlanned(timers, now, until, states, depth());
    }

    public long leastCost(int until) throws IllegalArgumentException {
        if (!isWithin(until, now, now + MOST_PLANNED)) {
            throw new IllegalArgumentException("until is out of range");
        }
        return plans.sumLeast(timers, now, until, states, depth());
    }

    // ---- playing a tick

    private void playTick() {
        if (state != AWAKE) {
            wakeIfCalledFor();
        }
        if (state == AWAKE) {
            serveWhatIsDue();
            fallAsleep(chooseState());
        }
        ledger.countTick(state);
        ledger.spend(powerOfTick());
        battery.takeTick(Math.floorMod(now / TICKS_OF_HOUR, HOURS), ledger.takeUnpaid());
        now++;
    }

    private void wakeIfCalledFor() {
        boolean isKnown = ticksToWakeup() == 0;
        if (!isKnown && !events.isAnyDue(now)) {
            return;
        }
        if (!isKnown) {
            ledger.spend(states.wakingCost(state));
            ledger.lateness += states.latencyOf(state);
        }
        endIdleTime();
    }

    private void wakeForCall() {
        if (state == AWAKE) {
            return;
        }
        ledger.spend(states.wakingCost(state));
        endIdleTime();
    }

    private void endIdleTime() {
        idleTimes.remember(now - asleepSince);
        state = AWAKE;
    }

    private void serveWhatIsDue() {
        int work = events.takeDue(now) + timers.takeDue(now);
        ledger.served += work;
        ledger.spend((long) work * states.powerOf(AWAKE));
    }

    private int chooseState() {
        int ticks = ticksToWakeup();
        if (rule == RULE_OF_LATENCY) {
            return states.deepestThatWakes(depth(), ticks);
        }
        if (rule == RULE_OF_HISTORY && idleTimes.count > 0) {
            ticks = Math.min(ticks, idleTimes.mean());
        }
        return states.deepestWorthwhile(depth(), ticks);
    }

    private void fallAsleep(int chosen) {
        if (chosen == AWAKE) {
            return;
        }
        state = chosen;
        asleepSince = now;
        ledger.sleeps++;
        ledger.spend(states.costOf(chosen));
    }

    private int powerOfTick() {
        boolean isWaking = ticksToWakeup() <= states.latencyOf(state);
        return states.powerOf(isWaking ? AWAKE : state);
    }

    private int ticksToWakeup() {
        int wakeup = nextWakeup();
        return wakeup == NONE ? NO_END : wakeup - now;
    }

    // ---- rows

    private static boolean isWithin(int value, int least, int most) {
        return value >= least && value <= most;
    }

    private static int read(int[] row, int index) {
        return index >= 0 && index < row.length ? row[index] : 0;
    }

    private static int exchange(int[] row, int index, int value) {
        if (index < 0 || index >= row.length) {
            return 0;
        }
        int before = row[index];
        row[index] = value;
        return before;
    }

    /** What the states are like; state 0 has a power alone. */
    private static final class States {
        private static final int LONGEST_BREAK_EVEN = 5000;

        private final int[] power;
        private final int[] cost;
        private final int[] latency;

        States() {
            power = new int[] {100, 40, 10, 1};
            cost = new int[] {0, 20, 150, 600};
            latency = new int[] {0, 1, 3, 8};
        }

        void change(int state, int newPower, int newCost, int newLatency) {
            exchange(power, state, newPower);
            exchange(cost, state, newCost);
            exchange(latency, state, newLatency);
        }

        int powerOf(int state) {
            return read(power, state);
        }

        int costOf(int state) {
            return read(cost, state);
        }

        int latencyOf(int state) {
            return read(latency, state);
        }

        int wakingCost(int state) {
            return powerOf(AWAKE) * latencyOf(state);
        }

        /** The cost of an idle time that is no shorter than the latency of the state. */
        int idleCost(int state, int ticks) {
            return costOf(state) + powerOf(state) * (ticks - latencyOf(state)) + wakingCost(state);
        }

        /** The break-even; what the ticks behind the latency save must make up for the cost. */
        int leastWorthwhile(int state) {
            if (costOf(state) == 0) {
                return latencyOf(state);
            }
            int saved = powerOf(AWAKE) - powerOf(state);
            if (saved <= 0) {
                return NONE;
            }
            int least = latencyOf(state) + (costOf(state) + saved - 1) / saved;
            return least <= LONGEST_BREAK_EVEN ? least : NONE;
        }

        int deepestThatWakes(int depth, int ticks) {
            for (int state = depth; state > AWAKE; state--) {
                if (latencyOf(state) <= ticks) {
                    return state;
                }
            }
            return AWAKE;
        }

        int deepestWorthwhile(int depth, int ticks) {
            for (int state = depth; state > AWAKE; state--) {
                int least = leastWorthwhile(state);
                if (least != NONE && least <= ticks) {
                    return state;
                }
            }
            return AWAKE;
        }

        /** The cost of an idle time with the state that the break-evens choose for it. */
        int plannedIdleCost(int depth, int ticks) {
            return idleCost(deepestWorthwhile(depth, ticks), ticks);
        }

        int leastIdleCost(int depth, int ticks) {
            int least = idleCost(AWAKE, ticks);
            for (int state = depth; state > AWAKE; state--) {
                if (latencyOf(state) <= ticks) {
                    least = Math.min(least, idleCost(state, ticks));
                }
            }
            return least;
        }
    }

    /** The tree of clocks; a clock has a greater number than its parent. */
    private static final class Clocks {
        private static final int MOST_USES = 9;
        private static final int MOST_CLOCKS = 8;
        private static final int ROOT_FREQUENCY = 4800;

        private final int[] parent;
        private final int[] frequency;
        private final int[] deepest;
        private final int[] uses;
        private final boolean[] running;
        private int count;

        Clocks() {
            parent = new int[MOST_CLOCKS];
            frequency = new int[MOST_CLOCKS];
            deepest = new int[MOST_CLOCKS];
            uses = new int[MOST_CLOCKS];
            running = new boolean[MOST_CLOCKS];
            parent[0] = NONE;
            frequency[0] = ROOT_FREQUENCY;
            // The clock 0 keeps the device from no state.
            deepest[0] = DEEPEST;
            count = 1;
        }

        boolean has(int clock) {
            return clock >= 0 && clock < count;
        }

        boolean isFull() {
            return count >= MOST_CLOCKS;
        }

        int add(int newParent, int divider, int newDeepest) {
            if (isFull() || divider <= 0) {
                return NONE;
            }
            parent[count] = newParent;
            frequency[count] = read(frequency, newParent) / divider;
            deepest[count] = newDeepest;
            uses[count] = 0;
            count++;
            return count - 1;
        }

        int usesOf(int clock) {
            return read(uses, clock);
        }

        int changeUses(int clock, int difference) {
            exchange(uses, clock, usesOf(clock) + difference);
            return usesOf(clock);
        }

        int frequencyOf(int clock) {
            return read(frequency, clock);
        }

        boolean isRunning(int clock) {
            markRunning();
            return has(clock) && running[clock];
        }

        int leastDeepest() {
            markRunning();
            int least = DEEPEST;
            for (int clock = 0; clock < count; clock++) {
                if (running[clock]) {
                    least = Math.min(least, deepest[clock]);
                }
            }
            return least;
        }

        /** From the last clock to the first, so that each one is marked before its parent is looked at. */
        private void markRunning() {
            for (int clock = 0; clock < count; clock++) {
                running[clock] = uses[clock] > 0;
            }
            for (int clock = count - 1; clock > 0; clock--) {
                if (running[clock] && has(parent[clock])) {
                    running[parent[clock]] = true;
                }
            }
        }
    }

    /** Works that are to be served from a due tick to a latest tick; for an event both are its tick. */
    private static final class Jobs {
        private static final int MOST_JOBS = 12;

        private final int[] due;
        private final int[] latest;
        private final int[] work;
        private int count;

        Jobs() {
            due = new int[MOST_JOBS];
            latest = new int[MOST_JOBS];
            work = new int[MOST_JOBS];
            count = 0;
        }

        boolean isFull() {
            return count >= MOST_JOBS;
        }

        int add(int newDue, int newLatest, int newWork) {
            if (isFull()) {
                return count;
            }
            due[count] = newDue;
            latest[count] = newLatest;
            work[count] = newWork;
            count++;
            return count;
        }

        boolean isAnyDue(int tick) {
            for (int job = 0; job < count; job++) {
                if (due[job] <= tick) {
                    return true;
                }
            }
            return false;
        }

        /** Takes away the jobs that are due by a tick, and returns the sum of their works. */
        int takeDue(int tick) {
            int sum = 0;
            int kept = 0;
            for (int job = 0; job < count; job++) {
                if (due[job] <= tick) {
                    sum += work[job];
                } else {
                    due[kept] = due[job];
                    latest[kept] = latest[job];
                    work[kept] = work[job];
                    kept++;
                }
            }
            count = kept;
            return sum;
        }

        /** The least latest tick, below a tick, of the jobs that are due behind a wakeup; NONE if there is none. */
        int leastLatest(int wakeup, int until) {
            int least = NONE;
            for (int job = 0; job < count; job++) {
                boolean isMeant = due[job] > wakeup && latest[job] < until;
                if (isMeant && (least == NONE || latest[job] < least)) {
                    least = latest[job];
                }
            }
            return least;
        }

        /** The greatest due tick of the jobs whose latest ticks are below a tick; NONE if there is none. */
        int greatestDue(int until) {
            int greatest = NONE;
            for (int job = 0; job < count; job++) {
                if (latest[job] < until) {
                    greatest = Math.max(greatest, due[job]);
                }
            }
            return greatest;
        }
    }

    /** The last four idle times. */
    private static final class IdleTimes {
        private static final int MOST_KEPT = 4;

        private final int[] lengths;
        private int count;

        IdleTimes() {
            lengths = new int[MOST_KEPT];
            count = 0;
        }

        void remember(int length) {
            for (int place = MOST_KEPT - 1; place > 0; place--) {
                lengths[place] = lengths[place - 1];
            }
            lengths[0] = length;
            count = Math.min(count + 1, MOST_KEPT);
        }

        int mean() {
            if (count <= 0) {
                return NO_END;
            }
            int sum = 0;
            for (int place = 0; place < count; place++) {
                sum += lengths[place];
            }
            return sum / count;
        }
    }

    /** What was spent, counted and served; unpaid is what the battery has not lost yet. */
    private static final class Ledger {
        private final int[] ticksIn;
        private long spent;
        private long unpaid;
        private int sleeps;
        private int lateness;
        private int served;

        Ledger() {
            ticksIn = new int[DEEPEST + 1];
            spent = 0;
            unpaid = 0;
            sleeps = 0;
            lateness = 0;
            served = 0;
        }

        void spend(long energy) {
            spent += energy;
            unpaid += energy;
        }

        void countTick(int state) {
            exchange(ticksIn, state, read(ticksIn, state) + 1);
        }

        long takeUnpaid() {
            long taken = unpaid;
            unpaid = 0;
            return taken;
        }
    }

    /** Two wells: the harvest comes into the available one, and the device is fed from it. */
    private static final class Battery {
        private static final int MOST_AVAILABLE = 50000;
        private static final int MOST_BOUND = 100000;
        private static final int SLOWNESS = 16;

        private final int[] harvest;
        private int available;
        private int bound;
        private int shortTicks;

        Battery() {
            harvest = new int[HOURS];
            available = MOST_AVAILABLE;
            bound = MOST_BOUND;
            shortTicks = 0;
        }

        void takeTick(int hour, long used) {
            long left = available + read(harvest, hour) - used;
            if (left < 0) {
                shortTicks++;
            }
            available = (int) Math.max(0, Math.min(left, MOST_AVAILABLE));
            balance();
        }

        private void balance() {
            int flow = Math.floorDiv(bound / 2 - available, SLOWNESS);
            if (flow >= 0) {
                flow = Math.min(flow, Math.min(bound, MOST_AVAILABLE - available));
            } else {
                flow = -Math.min(-flow, Math.min(available, MOST_BOUND - bound));
            }
            available += flow;
            bound -= flow;
        }
    }

    /** Plans for the timers whose latest ticks are below a tick: as they are made, and the best there are. */
    private static final class Plans {
        /** A tick for each one that is planned, one ahead of them, and the end. */
        private static final int ROW = MOST_PLANNED + 2;
        private static final long UNREACHED = 1000000000000L;

        /** The cost of going from one wakeup to another one, by the ticks between them. */
        private final long[] stepCost;
        /** The least cost of coming to a wakeup, by the ticks from the start. */
        private final long[] leastTo;

        Plans() {
            stepCost = new long[ROW];
            leastTo = new long[ROW];
        }

        int countPlanned(Jobs timers, int until) {
            int wakeups = 0;
            int wakeup = timers.leastLatest(NONE, until);
            while (wakeup != NONE && wakeups < timers.count) {
                wakeups++;
                wakeup = timers.leastLatest(wakeup, until);
            }
            return wakeups;
        }

        long sumPlanned(Jobs timers, int now, int until, States states, int depth) {
            long sum = 0;
            int from = now;
            int wakeups = countPlanned(timers, until);
            int wakeup = timers.leastLatest(NONE, until);
            for (int planned = 0; planned < wakeups; planned++) {
                sum += states.plannedIdleCost(depth, wakeup - from);
                from = wakeup;
                wakeup = timers.leastLatest(wakeup, until);
            }
            return sum + states.plannedIdleCost(depth, until - from);
        }

        /** Each step counts 1, from ahead of the first tick; the step to the end is no wakeup. */
        int countFewest(Jobs timers, int now, int until) {
            for (int ticks = 0; ticks < ROW; ticks++) {
                stepCost[ticks] = 1;
            }
            return (int) leastSum(timers, now, now - 1, until) - 1;
        }

        long sumLeast(Jobs timers, int now, int until, States states, int depth) {
            for (int ticks = 0; ticks < ROW; ticks++) {
                stepCost[ticks] = states.leastIdleCost(depth, ticks);
            }
            return leastSum(timers, now, now, until);
        }

        /** The least sum of steps from a start to an end, with wakeups from now on that serve all timers. */
        private long leastSum(Jobs timers, int now, int start, int end) {
            int steps = end - start;
            if (steps < 0 || steps >= ROW) {
                return 0;
            }
            leastTo[0] = 0;
            for (int to = 1; to <= steps; to++) {
                leastTo[to] = leastSumTo(to, earliestBefore(timers, now, start, start + to));
            }
            return leastTo[steps];
        }

        /** How far behind the start a wakeup must be, at the least, if the next one comes at a tick. */
        private int earliestBefore(Jobs timers, int now, int start, int tick) {
            int due = timers.greatestDue(tick);
            // A timer that is due behind the wakeup, and can't wait for the next one, would be missed.
            return due == NONE ? 0 : Math.max(due, now) - start;
        }

        private long leastSumTo(int to, int earliest) {
            long least = UNREACHED;
            for (int from = Math.max(earliest, 0); from < to; from++) {
                long sum = leastTo[from] + stepCost[to - from];
                if (sum < least) {
                    least = sum;
                }
            }
            return least;
        }
    }
}
