/**
 * Promises 2 to 32, each argument by itself: the last values that are allowed, with what comes of them, and the
 * first ones that are not, which change nothing; and what is full or empty.
 */
public final class ArgumentsTest {
    private static final int MIN = Integer.MIN_VALUE;
    private static final int MAX = Integer.MAX_VALUE;
    private static final Class<?> ARGUMENT = IllegalArgumentException.class;
    private static final Class<?> INDEX = IndexOutOfBoundsException.class;
    private static final Class<?> STATE = IllegalStateException.class;

    private ArgumentsTest() {
    }

    public static void main(String[] args) {
        setStateAndSetAwake();
        votes();
        clocks();
        timers();
        events();
        otherRanges();
        harvests();
        plans();
        Check.end("ArgumentsTest");
    }

    /** A call with a value that is wrong. */
    private interface With {
        long on(SleepPlanner x, int value);
    }

    /** The values just outside a range and far outside are refused. */
    private static void range(String what, Class<?> thrown, int least, int most, With call) {
        for (int value : new int[] {least - 1, most + 1, MIN, MAX}) {
            Check.refuses(what + " " + value, thrown, x -> call.on(x, value));
        }
    }

    /** As range(), for one from now on. */
    private static void rangeFromNow(String what, int most, With call) {
        Check.refuses(what + " now - 1", ARGUMENT, x -> call.on(x, x.now() - 1));
        Check.refuses(what + " now + " + (most + 1), ARGUMENT, x -> call.on(x, x.now() + most + 1));
        Check.refuses(what + " MIN", ARGUMENT, x -> call.on(x, MIN));
        Check.refuses(what + " MAX", ARGUMENT, x -> call.on(x, MAX));
    }

    private static long setState(SleepPlanner x, int state, int power, int cost, int latency) {
        x.setState(state, power, cost, latency);
        return 0;
    }

    private static void setStateAndSetAwake() {
        stateOfSetState();
        powerOfSetState();
        costOfSetState();
        latencyOfSetState();
        powerOfSetAwake();
    }

    private static void stateOfSetState() {
        Check.part("promise 2, state: 1 to 3");
        SleepPlanner x = new SleepPlanner();
        x.setState(1, 40, 20, 11);
        x.setState(3, 1, 600, 33);
        Check.same("breakEven(1)", x.breakEven(1), 12);
        Check.same("breakEven(2)", x.breakEven(2), 5);
        Check.same("breakEven(3)", x.breakEven(3), 40);
        range("setState, state", ARGUMENT, 1, 3, (y, state) -> setState(y, state, 5, 5, 5));
    }

    /** What a tick asleep in the state 1 costs, entered for nothing, by rule 0. */
    private static SleepPlanner asleepIn1(int power, int cost, int latency) {
        SleepPlanner x = new SleepPlanner();
        x.vote(0, 1);
        x.setRule(0);
        x.setState(1, power, cost, latency);
        x.play(1);
        Check.same("state()", x.state(), 1);
        return x;
    }

    private static void powerOfSetState() {
        Check.part("promise 2, power: 0 to 1000");
        Check.same("spent() with the power 0", asleepIn1(0, 0, 0).spent(), 0);
        Check.same("spent() with the power 1000", asleepIn1(1000, 0, 0).spent(), 1000);
        range("setState, power", ARGUMENT, 0, 1000, (y, power) -> setState(y, 1, power, 5, 5));
    }

    private static void costOfSetState() {
        Check.part("promise 2, cost: 0 to 10000");
        Check.same("spent() with the cost 0", asleepIn1(7, 0, 0).spent(), 7);
        Check.same("spent() with the cost 10000", asleepIn1(7, 10000, 0).spent(), 10007);
        range("setState, cost", ARGUMENT, 0, 10000, (y, cost) -> setState(y, 2, 5, cost, 5));
    }

    private static void latencyOfSetState() {
        Check.part("promise 2, latency: 0 to 100");
        SleepPlanner x = asleepIn1(7, 0, 0);
        x.vote(0, 1);
        Check.same("spent() woken from the latency 0", x.spent(), 7);
        SleepPlanner y = asleepIn1(7, 0, 100);
        y.vote(0, 1);
        Check.same("spent() woken from the latency 100", y.spent(), 7 + 100 * 100);
        range("setState, latency", ARGUMENT, 0, 100, (z, latency) -> setState(z, 3, 5, 5, latency));
    }

    private static void powerOfSetAwake() {
        Check.part("promise 3, power: 0 to 1000");
        SleepPlanner x = new SleepPlanner();
        x.vote(0, 0);
        Check.same("setAwake(0)", x.setAwake(0), 100);
        x.play(1);
        Check.same("spent() with the power 0", x.spent(), 0);
        Check.same("setAwake(1000)", x.setAwake(1000), 0);
        x.play(1);
        Check.same("spent() with the power 1000", x.spent(), 1000);
        Check.same("setAwake(1000) again", x.setAwake(1000), 1000);
        range("setAwake", ARGUMENT, 0, 1000, (y, power) -> y.setAwake(power));
    }

    private static void votes() {
        Check.part("promise 4, driver: 0 to 5");
        for (int driver = 0; driver <= 5; driver++) {
            SleepPlanner x = new SleepPlanner();
            Check.same("the first vote of " + driver, x.vote(driver, 1), 3);
            Check.same("depth() by " + driver, x.depth(), 1);
            Check.same("the second vote of " + driver, x.vote(driver, 2), 1);
            Check.same("depth() by " + driver + " again", x.depth(), 2);
        }
        range("vote, driver", ARGUMENT, 0, 5, (y, driver) -> y.vote(driver, 2));
        Check.part("promise 4, state: 0 to 3");
        for (int state = 0; state <= 3; state++) {
            SleepPlanner x = new SleepPlanner();
            x.vote(2, state);
            Check.same("depth() with the vote " + state, x.depth(), state);
            Check.same("the vote before", x.vote(2, 3), state);
        }
        range("vote, state", ARGUMENT, 0, 3, (y, state) -> y.vote(3, state));
    }

    /** A planner with clocks 0 to last, each one the parent of the next. */
    private static SleepPlanner chain(int last) {
        SleepPlanner x = new SleepPlanner();
        for (int number = 1; number <= last; number++) {
            Check.same("addClock", x.addClock(number - 1, 2, 3), number);
        }
        return x;
    }

    private static int countOfClocks(SleepPlanner x) {
        int count = 0;
        while (count < 20 && !Check.outcome(frequencyOf(x, count)).startsWith("java")) {
            count++;
        }
        return count;
    }

    private static Check.Call frequencyOf(SleepPlanner x, int clock) {
        return () -> x.frequency(clock);
    }

    private static void clocks() {
        parentOfAddClock();
        dividerOfAddClock();
        deepestOfAddClock();
        clocksAtMost();
        clockOfUseAndRelease();
        usesAtMost();
        usesAtLeast();
        clockOfRunsAndFrequency();
    }

    private static void parentOfAddClock() {
        Check.part("promise 5, parent: a clock");
        SleepPlanner x = chain(2);
        Check.same("addClock with the first parent", x.addClock(0, 3, 3), 3);
        Check.same("frequency(3)", x.frequency(3), 1600);
        Check.same("addClock with the last parent", x.addClock(3, 2, 3), 4);
        Check.same("frequency(4)", x.frequency(4), 800);
        for (int parent : new int[] {-1, 8, MIN, MAX}) {
            Check.refuses("addClock, parent " + parent, INDEX, y -> y.addClock(parent, 2, 3));
        }
        Check.refusesIn(Situation.NEW, "addClock, its own parent", INDEX, y -> y.addClock(1, 2, 3));
        Check.refusesIn(Situation.ASLEEP, "addClock, its own parent", INDEX, y -> y.addClock(2, 2, 3));
        Check.part("promise 5, the parent ahead of all else");
        Check.refuses("addClock, all wrong", INDEX, y -> y.addClock(8, 0, 4));
        Check.refuses("addClock, all wrong", INDEX, y -> y.addClock(-1, 65, -1));
    }

    private static void dividerOfAddClock() {
        Check.part("promise 5, divider: 1 to 64");
        SleepPlanner x = new SleepPlanner();
        Check.same("frequency with the divider 1", x.frequency(x.addClock(0, 1, 3)), 4800);
        Check.same("frequency with the divider 64", x.frequency(x.addClock(0, 64, 3)), 75);
        range("addClock, divider", ARGUMENT, 1, 64, (y, divider) -> y.addClock(0, divider, 3));
    }

    private static void deepestOfAddClock() {
        Check.part("promise 5, deepest: 0 to 3");
        for (int deepest = 0; deepest <= 3; deepest++) {
            SleepPlanner x = new SleepPlanner();
            x.addClock(0, 1, deepest);
            Check.same("depth() with a clock that is not used", x.depth(), 3);
            x.use(1);
            Check.same("depth() with the deepest " + deepest, x.depth(), deepest);
        }
        range("addClock, deepest", ARGUMENT, 0, 3, (y, deepest) -> y.addClock(0, 1, deepest));
    }

    private static void clocksAtMost() {
        Check.part("promise 5, at most 8 clocks");
        Check.same("clocks at first", countOfClocks(new SleepPlanner()), 1);
        SleepPlanner x = chain(6);
        Check.same("the eighth clock", x.addClock(0, 1, 3), 7);
        Check.refusesState("the ninth clock", () -> x.addClock(0, 1, 3));
        Check.refusesState("the ninth clock, once more", () -> x.addClock(7, 64, 0));
        Check.same("clocks", countOfClocks(x), 8);
        Check.same("use(7)", x.use(7), 1);
        Check.refusesIn(Situation.FULL, "the ninth clock", STATE, y -> y.addClock(0, 1, 0));
        Check.refusesIn(Situation.FULL, "the ninth clock with a wrong divider", ARGUMENT, y -> y.addClock(0, 0, 0));
        Check.refusesIn(Situation.FULL, "the ninth clock with a wrong deepest", ARGUMENT, y -> y.addClock(0, 1, 4));
    }

    private static void clockOfUseAndRelease() {
        Check.part("promises 6 and 7, clock: there is one");
        SleepPlanner x = chain(7);
        for (int clock : new int[] {0, 7}) {
            Check.same("use", x.use(clock), 1);
            Check.same("release", x.release(clock), 0);
        }
        for (int clock : new int[] {-1, 8, MIN, MAX}) {
            Check.refuses("use " + clock, INDEX, y -> y.use(clock));
            Check.refuses("release " + clock, INDEX, y -> y.release(clock));
        }
        Check.refusesIn(Situation.NEW, "use(1) of one clock", INDEX, y -> y.use(1));
        Check.refusesIn(Situation.NEW, "release(1) of one clock", INDEX, y -> y.release(1));
        Check.refusesIn(Situation.ASLEEP, "use(2) of two clocks", INDEX, y -> y.use(2));
        Check.refusesIn(Situation.ASLEEP, "release(2) of two clocks", INDEX, y -> y.release(2));
    }

    private static void usesAtMost() {
        Check.part("promise 6, used 9 times");
        SleepPlanner x = chain(2);
        for (int times = 1; times <= 9; times++) {
            Check.same("use(2)", x.use(2), times);
        }
        Check.refusesState("use(2) for the tenth time", () -> x.use(2));
        Check.refusesState("use(2) once more", () -> x.use(2));
        Check.same("use(1) beside it", x.use(1), 1);
        for (int times = 8; times >= 0; times--) {
            Check.same("runs(2)", x.runs(2) ? 1 : 0, 1);
            Check.same("release(2)", x.release(2), times);
        }
        Check.same("runs(2)", x.runs(2) ? 1 : 0, 0);
        Check.refusesIn(Situation.FULL, "use(5) for the tenth time", STATE, y -> y.use(5));
    }

    private static void usesAtLeast() {
        Check.part("promise 7, not used");
        SleepPlanner x = chain(2);
        Check.refusesState("release(2) when it is new", () -> x.release(2));
        x.use(2);
        Check.refusesState("release(1), which runs but is not used", () -> x.release(1));
        Check.same("release(2)", x.release(2), 0);
        Check.refusesState("release(2) when it is used no more", () -> x.release(2));
        Check.same("use(2)", x.use(2), 1);
        Check.refuses("release(0)", STATE, y -> y.release(0));
        Check.refusesIn(Situation.FULL, "release(2), which runs", STATE, y -> y.release(2));
    }

    private static void clockOfRunsAndFrequency() {
        Check.part("promises 8 and 9, clock: there is one");
        SleepPlanner x = chain(7);
        x.use(7);
        for (int clock : new int[] {0, 7}) {
            Check.same("runs", x.runs(clock) ? 1 : 0, 1);
        }
        Check.same("frequency(0)", x.frequency(0), 4800);
        Check.same("frequency(7)", x.frequency(7), 4800 / 128);
        for (int clock : new int[] {-1, 8, MIN, MAX}) {
            Check.refuses("runs " + clock, INDEX, y -> y.runs(clock) ? 1 : 0);
            Check.refuses("frequency " + clock, INDEX, y -> y.frequency(clock));
        }
        Check.refusesIn(Situation.NEW, "runs(1) of one clock", INDEX, y -> y.runs(1) ? 1 : 0);
        Check.refusesIn(Situation.NEW, "frequency(1) of one clock", INDEX, y -> y.frequency(1));
        Check.refusesIn(Situation.ASLEEP, "runs(2) of two clocks", INDEX, y -> y.runs(2) ? 1 : 0);
        Check.refusesIn(Situation.ASLEEP, "frequency(2) of two clocks", INDEX, y -> y.frequency(2));
    }

    private static void timers() {
        dueOfSchedule();
        slackOfSchedule();
        workOfSchedule();
        timersAtMost();
    }

    private static void dueOfSchedule() {
        Check.part("promise 12, due: now to now + 1000");
        SleepPlanner x = new SleepPlanner();
        x.play(7);
        Check.same("schedule at now", x.schedule(7, 0, 5), 1);
        x.play(1);
        Check.same("served() at once", x.served(), 5);
        Check.same("schedule at now + 1000", x.schedule(1008, 0, 6), 1);
        Check.same("nextWakeup()", x.nextWakeup(), 1008);
        for (int times = 0; times < 5; times++) {
            x.play(200);
        }
        Check.same("served() at 1007", x.served(), 5);
        x.play(1);
        Check.same("served() at 1008", x.served(), 11);
        rangeFromNow("schedule, due", 1000, (y, due) -> y.schedule(due, 0, 1));
    }

    private static void slackOfSchedule() {
        Check.part("promise 12, slack: 0 to 500");
        SleepPlanner x = new SleepPlanner();
        x.schedule(10, 500, 1);
        Check.same("nextWakeup() with the slack 500", x.nextWakeup(), 510);
        x.schedule(10, 0, 1);
        Check.same("nextWakeup() with the slack 0", x.nextWakeup(), 10);
        SleepPlanner y = new SleepPlanner();
        y.schedule(1000, 500, 1);
        Check.same("nextWakeup() with all that can be", y.nextWakeup(), 1500);
        range("schedule, slack", ARGUMENT, 0, 500, (z, slack) -> z.schedule(z.now(), slack, 1));
    }

    private static void workOfSchedule() {
        Check.part("promise 12, work: 1 to 50");
        SleepPlanner x = new SleepPlanner();
        x.vote(0, 0);
        x.schedule(0, 0, 1);
        x.play(1);
        Check.same("served() with the work 1", x.served(), 1);
        x.schedule(1, 0, 50);
        x.play(1);
        Check.same("served() with the work 50", x.served(), 51);
        Check.same("spent()", x.spent(), 100 * 51 + 200);
        range("schedule, work", ARGUMENT, 1, 50, (y, work) -> y.schedule(y.now(), 0, work));
    }

    private static void timersAtMost() {
        Check.part("promise 12, at most 12 timers");
        SleepPlanner x = new SleepPlanner();
        for (int timers = 1; timers <= 12; timers++) {
            Check.same("schedule", x.schedule(timers == 12 ? 0 : 90, 0, 1), timers);
        }
        Check.refusesState("the thirteenth timer", () -> x.schedule(0, 0, 1));
        Check.same("timers()", x.timers(), 12);
        x.play(1);
        Check.same("served()", x.served(), 1);
        Check.same("a twelfth timer again", x.schedule(90, 0, 1), 12);
        Check.refusesState("a thirteenth timer again", () -> x.schedule(90, 0, 1));
        Check.refusesIn(Situation.FULL, "a thirteenth timer", STATE, y -> y.schedule(y.now(), 0, 1));
        Check.refusesIn(Situation.FULL, "a thirteenth timer of no work", ARGUMENT, y -> y.schedule(y.now(), 0, 0));
        Check.refusesIn(Situation.FULL, "a thirteenth timer due too late", ARGUMENT,
                y -> y.schedule(y.now() + 1001, 0, 1));
        Check.refusesIn(Situation.FULL, "a thirteenth timer of too much slack", ARGUMENT,
                y -> y.schedule(y.now(), 501, 1));
        Check.same("addEvent beside 12 timers", x.addEvent(90, 1), 1);
    }

    private static void events() {
        tickOfAddEvent();
        workOfAddEvent();
        eventsAtMost();
    }

    private static void tickOfAddEvent() {
        Check.part("promise 13, tick: now to now + 1000");
        SleepPlanner x = new SleepPlanner();
        x.play(7);
        Check.same("addEvent at now", x.addEvent(7, 5), 1);
        Check.same("addEvent at now + 1000", x.addEvent(1007, 6), 2);
        x.play(1);
        Check.same("served() at once", x.served(), 5);
        for (int times = 0; times < 4; times++) {
            x.play(200);
        }
        x.play(199);
        Check.same("served() at 1006", x.served(), 5);
        x.play(1);
        Check.same("served() at 1007", x.served(), 11);
        rangeFromNow("addEvent, tick", 1000, (y, tick) -> y.addEvent(tick, 1));
    }

    private static void workOfAddEvent() {
        Check.part("promise 13, work: 1 to 50");
        SleepPlanner x = new SleepPlanner();
        x.vote(0, 0);
        x.addEvent(0, 1);
        x.addEvent(1, 50);
        x.play(1);
        Check.same("served() with the work 1", x.served(), 1);
        x.play(1);
        Check.same("served() with the work 50", x.served(), 51);
        Check.same("spent()", x.spent(), 100 * 51 + 200);
        range("addEvent, work", ARGUMENT, 1, 50, (y, work) -> y.addEvent(y.now(), work));
    }

    private static void eventsAtMost() {
        Check.part("promise 13, at most 12 to come");
        SleepPlanner x = new SleepPlanner();
        for (int events = 1; events <= 12; events++) {
            Check.same("addEvent", x.addEvent(events == 12 ? 0 : 90, 1), events);
        }
        Check.refusesState("the thirteenth event", () -> x.addEvent(0, 1));
        x.play(1);
        Check.same("served()", x.served(), 1);
        Check.same("a twelfth event again", x.addEvent(90, 1), 12);
        Check.refusesState("a thirteenth event again", () -> x.addEvent(90, 1));
        Check.refusesIn(Situation.FULL, "a thirteenth event", STATE, y -> y.addEvent(y.now(), 1));
        Check.refusesIn(Situation.FULL, "a thirteenth event of no work", ARGUMENT, y -> y.addEvent(y.now(), 0));
        Check.refusesIn(Situation.FULL, "a thirteenth event too late", ARGUMENT, y -> y.addEvent(y.now() + 1001, 1));
        Check.same("schedule beside 12 events", x.schedule(90, 0, 1), 1);
    }

    private static void otherRanges() {
        Check.part("promise 11, state: 1 to 3");
        Check.same("breakEven(1)", new SleepPlanner().breakEven(1), 2);
        Check.same("breakEven(3)", new SleepPlanner().breakEven(3), 15);
        range("breakEven", ARGUMENT, 1, 3, (y, state) -> y.breakEven(state));
        Check.part("promise 14, rule: 0 to 2");
        SleepPlanner x = new SleepPlanner();
        int[] before = {1, 0, 1, 2};
        int[] rules = {0, 1, 2, 2};
        for (int i = 0; i < rules.length; i++) {
            Check.same("setRule(" + rules[i] + ")", x.setRule(rules[i]), before[i]);
        }
        range("setRule", ARGUMENT, 0, 2, (y, rule) -> y.setRule(rule));
        Check.part("promise 17, ticks: 1 to 200");
        Check.same("play(1)", x.play(1), 1);
        Check.same("play(200)", x.play(200), 201);
        Check.same("now()", x.now(), 201);
        range("play", ARGUMENT, 1, 200, (y, ticks) -> y.play(ticks));
        Check.part("promise 21, state: 0 to 3");
        x.vote(0, 0);
        x.play(2);
        Check.same("ticksIn(0)", x.ticksIn(0), 2);
        Check.same("ticksIn(3)", x.ticksIn(3), 201);
        range("ticksIn", ARGUMENT, 0, 3, (y, state) -> y.ticksIn(state));
    }

    private static void harvests() {
        Check.part("promise 25, hour: 0 to 23");
        SleepPlanner x = new SleepPlanner();
        for (int hour = 0; hour <= 23; hour++) {
            Check.same("setHarvest(" + hour + ") for the first time", x.setHarvest(hour, hour + 1), 0);
        }
        for (int hour = 0; hour <= 23; hour++) {
            Check.same("setHarvest(" + hour + ") again", x.setHarvest(hour, 0), hour + 1);
        }
        range("setHarvest, hour", ARGUMENT, 0, 23, (y, hour) -> y.setHarvest(hour, 5));
        Check.part("promise 25, energy: 0 to 1000");
        SleepPlanner z = emptied();
        int all = z.available() + z.bound();
        Check.same("setHarvest(0, 1000)", z.setHarvest(0, 1000), 0);
        z.play(1);
        Check.same("the wells with 1000", z.available() + z.bound(), all + 1000);
        Check.same("setHarvest(0, 0)", z.setHarvest(0, 0), 1000);
        z.play(1);
        Check.same("the wells with 0", z.available() + z.bound(), all + 1000);
        range("setHarvest, energy", ARGUMENT, 0, 1000, (y, energy) -> y.setHarvest(0, energy));
    }

    /** At the tick 1 with 100000 in both wells, and with no power that is used. */
    private static SleepPlanner emptied() {
        SleepPlanner x = new SleepPlanner();
        x.vote(0, 0);
        x.setAwake(1000);
        x.schedule(0, 0, 49);
        x.play(1);
        x.setAwake(0);
        return x;
    }

    private static void plans() {
        plan("promise 29, until: now to now + 400", (y, until) -> y.plannedWakeups(until), 1);
        plan("promise 30, until: now to now + 400", (y, until) -> y.fewestWakeups(until), 1);
        // 399 ticks in the state 3, then one in the state 0.
        plan("promise 31, until: now to now + 400", (y, until) -> y.plannedCost(until), 600 + 391 + 800 + 100);
        plan("promise 32, until: now to now + 400", (y, until) -> y.leastCost(until), 600 + 391 + 800 + 100);
    }

    /** A timer at now + 399 is meant by now + 400, one at now + 400 is not, and none is by now. */
    private static void plan(String part, With plan, long at400) {
        Check.part(part);
        SleepPlanner x = new SleepPlanner();
        x.play(13);
        x.schedule(13 + 399, 0, 1);
        x.schedule(13 + 400, 0, 1);
        Check.same("until now", plan.on(x, 13), 0);
        Check.same("until now + 400", plan.on(x, 413), at400);
        rangeFromNow("until", 400, plan);
    }
}
