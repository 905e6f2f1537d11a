import java.util.Random;

/**
 * Runs of calls, drawn with fixed seeds; each answer is held against the reference. Behind each step some of what can
 * be seen is looked at, and at the end all of it; a run takes no more calls than an object is used for.
 */
public final class RandomRunsTest {
    private static final int MOST_CALLS = 512;
    /** The calls of the dearest step with its looks, and of the looks at the end. */
    private static final int LAST_CALLS = 24;
    private static final int LOOKS = 17;

    private final Random draw;
    private final long seed;
    private final int profile;
    private final SleepPlanner planner = new SleepPlanner();
    private final Reference reference = new Reference();
    private int calls;

    private RandomRunsTest(long seed) {
        this.seed = seed;
        draw = new Random(seed);
        profile = (int) (seed % 5);
    }

    public static void main(String[] args) {
        int runs = args.length > 0 ? Integer.parseInt(args[0]) : 2000;
        for (int seed = 0; seed < runs && Check.failures() < 20; seed++) {
            new RandomRunsTest(seed).play512();
        }
        Check.end("RandomRunsTest");
    }

    private void play512() {
        while (calls < MOST_CALLS - LAST_CALLS && Check.failures() < 20) {
            Check.part("seed " + seed + ", call " + calls);
            oneStep();
            look(draw.nextInt(LOOKS));
            look(draw.nextInt(LOOKS));
        }
        Check.part("seed " + seed + ", at the end");
        for (int what = 0; calls < MOST_CALLS; what++) {
            look(what % LOOKS);
        }
    }

    private void oneStep() {
        int kind = draw.nextInt(100);
        if (kind < 30) {
            play();
        } else if (kind < 45) {
            schedule();
        } else if (kind < 55) {
            addEvent();
        } else if (kind < 75) {
            change();
        } else if (kind < 85) {
            clocks();
        } else {
            plans();
        }
    }

    private void compare(String what, Check.Call got, Check.Call want) {
        calls++;
        Check.sameOutcome(what, Check.outcome(got), Check.outcome(want));
    }

    /** Mostly within the range, at times its ends, just outside, or far outside. */
    private int value(int least, int most) {
        int kind = draw.nextInt(60);
        if (kind == 0) {
            return least - 1;
        }
        if (kind == 1) {
            return most + 1;
        }
        if (kind == 2) {
            return draw.nextBoolean() ? Integer.MIN_VALUE : Integer.MAX_VALUE;
        }
        if (kind < 6) {
            return draw.nextBoolean() ? least : most;
        }
        return least + draw.nextInt(most - least + 1);
    }

    /** As value(), but mostly small, so that short times and small sums meet. */
    private int small(int least, int most, int usual) {
        return draw.nextInt(12) == 0 ? value(least, most) : least + draw.nextInt(Math.min(usual, most - least) + 1);
    }

    private void play() {
        int ticks = profile == 0 ? value(1, 200) : small(1, 200, profile == 4 ? 60 : 12);
        compare("play(" + ticks + ")", () -> planner.play(ticks), () -> reference.play(ticks));
    }

    private void schedule() {
        int now = (int) reference.now();
        int due = profile == 0 ? value(now, now + 1000) : small(now, now + 1000, profile == 4 ? 300 : 30);
        int slack = profile == 0 ? value(0, 500) : small(0, 500, profile == 4 ? 100 : 20);
        int work = value(1, 50);
        compare("schedule(" + due + ", " + slack + ", " + work + ")",
                () -> planner.schedule(due, slack, work), () -> reference.schedule(due, slack, work));
    }

    private void addEvent() {
        int now = (int) reference.now();
        int tick = profile == 0 ? value(now, now + 1000) : small(now, now + 1000, 30);
        int work = value(1, 50);
        compare("addEvent(" + tick + ", " + work + ")",
                () -> planner.addEvent(tick, work), () -> reference.addEvent(tick, work));
    }

    private void change() {
        int kind = draw.nextInt(5);
        if (kind == 0) {
            setState();
        } else if (kind == 1) {
            int power = profile == 3 ? small(0, 1000, 60) : value(0, 1000);
            compare("setAwake(" + power + ")", () -> planner.setAwake(power), () -> reference.setAwake(power));
        } else if (kind == 2) {
            int driver = value(0, 5);
            int state = draw.nextInt(3) == 0 ? value(0, 3) : 3;
            compare("vote(" + driver + ", " + state + ")",
                    () -> planner.vote(driver, state), () -> reference.vote(driver, state));
        } else if (kind == 3) {
            int rule = value(0, 2);
            compare("setRule(" + rule + ")", () -> planner.setRule(rule), () -> reference.setRule(rule));
        } else {
            int hour = value(0, 23);
            int energy = value(0, 1000);
            compare("setHarvest(" + hour + ", " + energy + ")",
                    () -> planner.setHarvest(hour, energy), () -> reference.setHarvest(hour, energy));
        }
    }

    private void setState() {
        int state = value(1, 3);
        int power = profile == 1 ? value(0, 1000) : small(0, 1000, 60);
        int cost = profile == 1 ? value(0, 10000) : small(0, 10000, 300);
        int latency = profile == 1 ? value(0, 100) : small(0, 100, 10);
        compare("setState(" + state + ", " + power + ", " + cost + ", " + latency + ")", () -> {
            planner.setState(state, power, cost, latency);
            return 0;
        }, () -> reference.setState(state, power, cost, latency));
    }

    private void clocks() {
        int clock = value(0, 7);
        int kind = draw.nextInt(4);
        if (kind == 0) {
            int divider = value(1, 64);
            int deepest = value(0, 3);
            int parent = draw.nextInt(3) == 0 ? clock : draw.nextInt(4);
            compare("addClock(" + parent + ", " + divider + ", " + deepest + ")",
                    () -> planner.addClock(parent, divider, deepest),
                    () -> reference.addClock(parent, divider, deepest));
        } else if (kind == 1) {
            compare("use(" + clock + ")", () -> planner.use(clock), () -> reference.use(clock));
        } else {
            compare("release(" + clock + ")", () -> planner.release(clock), () -> reference.release(clock));
        }
        compare("runs(" + clock + ")", () -> planner.runs(clock) ? 1 : 0, () -> reference.runs(clock));
        compare("frequency(" + clock + ")", () -> planner.frequency(clock), () -> reference.frequency(clock));
    }

    private void plans() {
        int now = (int) reference.now();
        int until = draw.nextInt(8) == 0 ? value(now, now + 400) : small(now, now + 400, 90);
        compare("plannedWakeups(" + until + ")",
                () -> planner.plannedWakeups(until), () -> reference.plannedWakeups(until));
        compare("fewestWakeups(" + until + ")",
                () -> planner.fewestWakeups(until), () -> reference.fewestWakeups(until));
        compare("plannedCost(" + until + ")",
                () -> planner.plannedCost(until), () -> reference.plannedCost(until));
        compare("leastCost(" + until + ")",
                () -> planner.leastCost(until), () -> reference.leastCost(until));
    }

    private void look(int what) {
        switch (what) {
            case 0 -> compare("now()", planner::now, reference::now);
            case 1 -> compare("state()", planner::state, reference::state);
            case 2 -> compare("depth()", planner::depth, reference::depth);
            case 3 -> compare("timers()", planner::timers, reference::timers);
            case 4 -> compare("nextWakeup()", planner::nextWakeup, reference::nextWakeup);
            case 5 -> compare("sleeps()", planner::sleeps, reference::sleeps);
            case 6 -> compare("lateness()", planner::lateness, reference::lateness);
            case 7 -> compare("served()", planner::served, reference::served);
            case 8 -> compare("available()", planner::available, reference::available);
            case 9 -> compare("bound()", planner::bound, reference::bound);
            case 10 -> compare("shortTicks()", planner::shortTicks, reference::shortTicks);
            case 11 -> breakEven(value(0, 3));
            case 12, 13, 14, 15 -> ticksIn(what - 12);
            default -> compare("spent()", planner::spent, reference::spent);
        }
    }

    private void breakEven(int state) {
        compare("breakEven(" + state + ")", () -> planner.breakEven(state), () -> reference.breakEven(state));
    }

    private void ticksIn(int state) {
        compare("ticksIn(" + state + ")", () -> planner.ticksIn(state), () -> reference.ticksIn(state));
    }
}
