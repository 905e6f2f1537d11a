/** Each promise of the document: ordinary inputs, the edges that it names, and wrong inputs. */
public final class PromisesTest {
    private static final int MIN = Integer.MIN_VALUE;
    private static final int MAX = Integer.MAX_VALUE;

    private PromisesTest() {
    }

    public static void main(String[] args) {
        promise1NewObject();
        promise2SetState();
        promise3SetAwake();
        promise4Vote();
        promise5AddClock();
        promise6Use();
        promise7Release();
        promise8Runs();
        promise9Frequency();
        promise10Depth();
        promise11BreakEven();
        promise12Schedule();
        promise13AddEvent();
        promise14SetRule();
        promise15Timers();
        promise16NextWakeup();
        promise17Play();
        promise18Now();
        promise19State();
        promise20Spent();
        promise21TicksIn();
        promise22Sleeps();
        promise23Lateness();
        promise24Served();
        promise25SetHarvest();
        promise26Available();
        promise27Bound();
        promise28ShortTicks();
        promise29PlannedWakeups();
        promise30FewestWakeups();
        promise31PlannedCost();
        promise32LeastCost();
        Check.end("PromisesTest");
    }

    /** All that can be looked at, in one text. */
    private static String look(SleepPlanner x) {
        StringBuilder text = new StringBuilder();
        long[] answers = {x.now(), x.state(), x.depth(), x.timers(), x.nextWakeup(), x.spent(), x.sleeps(), x.lateness(),
            x.served(), x.available(), x.bound(), x.shortTicks(), x.ticksIn(0), x.ticksIn(1), x.ticksIn(2), x.ticksIn(3),
            x.breakEven(1), x.breakEven(2), x.breakEven(3), x.plannedCost(x.now() + 50), x.leastCost(x.now() + 50)};
        for (long answer : answers) {
            text.append(answer).append(' ');
        }
        for (int clock = 0; clock < 8; clock++) {
            int number = clock;
            text.append(Check.outcome(() -> x.runs(number) ? 1 : 0)).append(' ');
        }
        return text.toString();
    }

    /** An object asleep in the state 3 at the tick 1, after 601 were spent. */
    private static SleepPlanner asleep() {
        SleepPlanner x = new SleepPlanner();
        x.play(1);
        return x;
    }

    private static void unchanged(SleepPlanner x, String before) {
        Check.sameOutcome("what is seen after a call that throws", look(x), before);
    }

    private static void awokenFor(SleepPlanner x, long spent) {
        Check.same("state() after a call that wakes", x.state(), 0);
        Check.same("spent() after a call that wakes", x.spent(), spent);
        Check.same("lateness() after a call that wakes", x.lateness(), 0);
    }

    private static void promise1NewObject() {
        Check.part("promise 1");
        SleepPlanner x = new SleepPlanner();
        Check.sameOutcome("a new object", look(x), "0 0 3 0 -1 0 0 0 0 50000 100000 0 0 0 0 0 2 5 15 1442 920 "
                + "0 java.lang.IndexOutOfBoundsException java.lang.IndexOutOfBoundsException "
                + "java.lang.IndexOutOfBoundsException java.lang.IndexOutOfBoundsException "
                + "java.lang.IndexOutOfBoundsException java.lang.IndexOutOfBoundsException "
                + "java.lang.IndexOutOfBoundsException ");
        x.play(1);
        Check.same("state() after a tick", x.state(), 3);
        Check.same("spent() after a tick", x.spent(), 601);
        SleepPlanner other = new SleepPlanner();
        Check.same("now() of another object", other.now(), 0);
    }

    private static void promise2SetState() {
        Check.part("promise 2");
        SleepPlanner x = asleep();
        String before = look(x);
        int[][] wrong = {{0, 1, 1, 1}, {4, 1, 1, 1}, {MIN, 1, 1, 1}, {MAX, 1, 1, 1}, {1, -1, 1, 1}, {1, 1001, 1, 1},
            {1, MIN, 1, 1}, {1, 1, -1, 1}, {1, 1, 10001, 1}, {1, 1, MAX, 1}, {1, 1, 1, -1}, {1, 1, 1, 101}, {1, 1, 1, MAX}};
        for (int[] w : wrong) {
            Check.refusesArgument("setState", () -> {
                x.setState(w[0], w[1], w[2], w[3]);
                return 0;
            });
        }
        unchanged(x, before);
        // The wakening is paid with the latency 8 that it had, not with the new one.
        x.setState(3, 1000, 10000, 100);
        awokenFor(x, 601 + 800);
        Check.same("breakEven(3)", x.breakEven(3), -1);
        x.setState(1, 0, 0, 0);
        x.setState(2, 0, 0, 100);
        Check.same("breakEven(1)", x.breakEven(1), 0);
        Check.same("breakEven(2)", x.breakEven(2), 100);
        x.vote(0, 2);
        x.play(1);
        Check.same("spent() in a state that costs nothing", x.spent(), 1401);
        Check.same("state()", x.state(), 2);
        x.setState(1, 0, 0, 0);
        Check.same("spent() when the state 2 was left for a change of the state 1", x.spent(), 1401 + 100 * 100);
    }

    private static void promise3SetAwake() {
        Check.part("promise 3");
        SleepPlanner x = asleep();
        String before = look(x);
        for (int wrong : new int[] {-1, 1001, MIN, MAX}) {
            Check.refusesArgument("setAwake", () -> x.setAwake(wrong));
        }
        unchanged(x, before);
        Check.same("setAwake(1000)", x.setAwake(1000), 100);
        awokenFor(x, 601 + 800);
        Check.same("breakEven(3)", x.breakEven(3), 9);
        Check.same("setAwake(0)", x.setAwake(0), 1000);
        Check.same("breakEven(3)", x.breakEven(3), -1);
        x.play(10);
        Check.same("spent() with no power at all", x.spent(), 1401);
        Check.same("setAwake(0)", x.setAwake(0), 0);
    }

    private static void promise4Vote() {
        Check.part("promise 4");
        SleepPlanner x = asleep();
        String before = look(x);
        int[][] wrong = {{-1, 0}, {6, 0}, {MIN, 0}, {MAX, 0}, {0, -1}, {0, 4}, {0, MIN}, {0, MAX}};
        for (int[] w : wrong) {
            Check.refusesArgument("vote", () -> x.vote(w[0], w[1]));
        }
        unchanged(x, before);
        Check.same("vote(5, 3)", x.vote(5, 3), 3);
        awokenFor(x, 601 + 800);
        Check.same("vote(5, 0)", x.vote(5, 0), 3);
        Check.same("vote(0, 1)", x.vote(0, 1), 3);
        Check.same("depth()", x.depth(), 0);
        Check.same("vote(5, 2)", x.vote(5, 2), 0);
        Check.same("depth()", x.depth(), 1);
        Check.same("vote(0, 3)", x.vote(0, 3), 1);
        Check.same("depth()", x.depth(), 2);
    }

    private static void promise5AddClock() {
        Check.part("promise 5");
        SleepPlanner x = asleep();
        String before = look(x);
        for (int parent : new int[] {-1, 1, 8, MIN, MAX}) {
            Check.refusesIndex("addClock", () -> x.addClock(parent, 0, 4));
        }
        int[][] wrong = {{0, 0}, {65, 0}, {-1, 0}, {MIN, 0}, {MAX, 0}, {1, -1}, {1, 4}, {1, MIN}, {1, MAX}};
        for (int[] w : wrong) {
            Check.refusesArgument("addClock", () -> x.addClock(0, w[0], w[1]));
        }
        unchanged(x, before);
        Check.same("addClock(0, 1, 0)", x.addClock(0, 1, 0), 1);
        awokenFor(x, 601 + 800);
        Check.same("runs(1)", x.runs(1) ? 1 : 0, 0);
        Check.same("depth()", x.depth(), 3);
        for (int number = 2; number <= 7; number++) {
            Check.same("addClock", x.addClock(number - 1, 64, 3), number);
        }
        x.play(1);
        before = look(x);
        Check.refusesState("a clock behind the eighth", () -> x.addClock(7, 64, 3));
        Check.refusesArgument("a ninth clock with a wrong divider", () -> x.addClock(7, 65, 3));
        Check.refusesIndex("a ninth clock with no parent", () -> x.addClock(8, 65, 4));
        unchanged(x, before);
    }

    private static void promise6Use() {
        Check.part("promise 6");
        SleepPlanner x = asleep();
        String before = look(x);
        for (int wrong : new int[] {-1, 1, 8, MIN, MAX}) {
            Check.refusesIndex("use", () -> x.use(wrong));
        }
        unchanged(x, before);
        Check.same("use(0)", x.use(0), 1);
        awokenFor(x, 601 + 800);
        for (int times = 2; times <= 9; times++) {
            Check.same("use(0)", x.use(0), times);
        }
        x.play(1);
        before = look(x);
        Check.refusesState("use(0) for the tenth time", () -> x.use(0));
        unchanged(x, before);
        x.release(0);
        Check.same("use(0)", x.use(0), 9);
    }

    private static void promise7Release() {
        Check.part("promise 7");
        SleepPlanner x = new SleepPlanner();
        x.addClock(0, 2, 2);
        x.use(1);
        x.use(1);
        x.play(1);
        Check.same("state()", x.state(), 2);
        String before = look(x);
        for (int wrong : new int[] {-1, 2, 8, MIN, MAX}) {
            Check.refusesIndex("release", () -> x.release(wrong));
        }
        Check.refusesState("release(0)", () -> x.release(0));
        unchanged(x, before);
        Check.same("release(1)", x.release(1), 1);
        awokenFor(x, 150 + 10 + 300);
        Check.same("runs(1)", x.runs(1) ? 1 : 0, 1);
        Check.same("release(1)", x.release(1), 0);
        Check.same("runs(1)", x.runs(1) ? 1 : 0, 0);
        Check.refusesState("release(1)", () -> x.release(1));
    }

    private static void promise8Runs() {
        Check.part("promise 8");
        SleepPlanner x = new SleepPlanner();
        x.addClock(0, 2, 3);
        x.addClock(1, 2, 3);
        x.addClock(2, 2, 3);
        x.addClock(1, 2, 3);
        for (int wrong : new int[] {-1, 5, 8, MIN, MAX}) {
            Check.refusesIndex("runs", () -> x.runs(wrong) ? 1 : 0);
        }
        x.use(3);
        int[] due = {1, 1, 1, 1, 0};
        for (int clock = 0; clock < 5; clock++) {
            Check.same("runs(" + clock + ") with 3 used", x.runs(clock) ? 1 : 0, due[clock]);
        }
        x.use(4);
        x.release(3);
        due = new int[] {1, 1, 0, 0, 1};
        for (int clock = 0; clock < 5; clock++) {
            Check.same("runs(" + clock + ") with 4 used", x.runs(clock) ? 1 : 0, due[clock]);
        }
        x.use(1);
        x.release(4);
        due = new int[] {1, 1, 0, 0, 0};
        for (int clock = 0; clock < 5; clock++) {
            Check.same("runs(" + clock + ") with 1 used", x.runs(clock) ? 1 : 0, due[clock]);
        }
        x.play(1);
        x.runs(0);
        Check.same("state() after runs()", x.state(), 3);
    }

    private static void promise9Frequency() {
        Check.part("promise 9");
        SleepPlanner x = new SleepPlanner();
        x.addClock(0, 7, 3);
        x.addClock(1, 64, 3);
        x.addClock(2, 11, 3);
        x.addClock(0, 1, 3);
        for (int wrong : new int[] {-1, 5, 8, MIN, MAX}) {
            Check.refusesIndex("frequency", () -> x.frequency(wrong));
        }
        int[] due = {4800, 685, 10, 0, 4800};
        for (int clock = 0; clock < 5; clock++) {
            Check.same("frequency(" + clock + ")", x.frequency(clock), due[clock]);
        }
        x.use(1);
        Check.same("frequency(1) of a clock that runs", x.frequency(1), 685);
    }

    private static void promise10Depth() {
        Check.part("promise 10");
        SleepPlanner x = new SleepPlanner();
        x.addClock(0, 1, 0);
        x.addClock(1, 1, 2);
        x.addClock(0, 1, 1);
        Check.same("depth() with no clock that runs", x.depth(), 3);
        x.use(0);
        Check.same("depth() with the clock 0", x.depth(), 3);
        x.use(3);
        Check.same("depth() with a clock down to 1", x.depth(), 1);
        x.use(2);
        Check.same("depth() with a clock whose parent keeps awake", x.depth(), 0);
        x.release(2);
        x.vote(4, 2);
        Check.same("depth() with a vote above the clock", x.depth(), 1);
        x.release(3);
        Check.same("depth() with the vote alone", x.depth(), 2);
    }

    private static void promise11BreakEven() {
        Check.part("promise 11");
        SleepPlanner x = new SleepPlanner();
        for (int wrong : new int[] {0, 4, -1, MIN, MAX}) {
            Check.refusesArgument("breakEven", () -> x.breakEven(wrong));
        }
        // 20 / 60, 150 / 90 and 600 / 99, rounded up, behind the latencies.
        Check.same("breakEven(1)", x.breakEven(1), 2);
        Check.same("breakEven(2)", x.breakEven(2), 5);
        Check.same("breakEven(3)", x.breakEven(3), 15);
        x.setState(1, 100, 0, 4);
        Check.same("no cost and no gain", x.breakEven(1), 4);
        x.setState(1, 1000, 0, 100);
        Check.same("no cost and a greater power", x.breakEven(1), 100);
        x.setState(1, 100, 1, 0);
        Check.same("a cost and no gain", x.breakEven(1), -1);
        x.setState(1, 98, 10000, 0);
        Check.same("at 5000", x.breakEven(1), 5000);
        x.setState(1, 98, 10000, 1);
        Check.same("behind 5000", x.breakEven(1), -1);
        x.setState(1, 98, 9998, 1);
        Check.same("at 5000 with a latency", x.breakEven(1), 5000);
        x.setState(1, 40, 120, 0);
        Check.same("a cost that divides", x.breakEven(1), 2);
        x.setState(1, 40, 121, 0);
        Check.same("a cost that divides with 1 left", x.breakEven(1), 3);
        x.setState(1, 99, 7, 2);
        Check.same("a gain of 1", x.breakEven(1), 9);
        x.play(1);
        x.breakEven(1);
        Check.same("state() after breakEven()", x.state(), 3);
    }

    private static void promise12Schedule() {
        Check.part("promise 12");
        SleepPlanner x = asleep();
        String before = look(x);
        int[][] wrong = {{0, 0, 1}, {1002, 0, 1}, {-1, 0, 1}, {MIN, 0, 1}, {MAX, 0, 1}, {1, -1, 1}, {1, 501, 1},
            {1, MAX, 1}, {1, 0, 0}, {1, 0, 51}, {1, 0, MIN}, {1, 0, MAX}};
        for (int[] w : wrong) {
            Check.refusesArgument("schedule", () -> x.schedule(w[0], w[1], w[2]));
        }
        unchanged(x, before);
        Check.same("schedule(1001, 500, 50)", x.schedule(1001, 500, 50), 1);
        awokenFor(x, 601 + 800);
        Check.same("nextWakeup()", x.nextWakeup(), 1501);
        Check.same("schedule(1, 0, 1)", x.schedule(1, 0, 1), 2);
        x.play(1);
        Check.same("served() of a timer that is due at once", x.served(), 1);
        for (int timers = 2; timers <= 12; timers++) {
            Check.same("schedule", x.schedule(100, 10, 2), timers);
        }
        x.play(1);
        before = look(x);
        Check.refusesState("a thirteenth timer", () -> x.schedule(100, 10, 2));
        Check.refusesArgument("a thirteenth timer of no work", () -> x.schedule(100, 10, 0));
        unchanged(x, before);
        x.play(120);
        Check.same("timers() when eleven were served at 110", x.timers(), 1);
        Check.same("served()", x.served(), 1 + 11 * 2);
        Check.same("schedule", x.schedule(200, 0, 1), 2);
    }

    private static void promise13AddEvent() {
        Check.part("promise 13");
        SleepPlanner x = asleep();
        String before = look(x);
        int[][] wrong = {{0, 1}, {1002, 1}, {-1, 1}, {MIN, 1}, {MAX, 1}, {1, 0}, {1, 51}, {1, MIN}, {1, MAX}};
        for (int[] w : wrong) {
            Check.refusesArgument("addEvent", () -> x.addEvent(w[0], w[1]));
        }
        Check.same("addEvent(1001, 1)", x.addEvent(1001, 1), 1);
        unchanged(x, before);
        for (int events = 2; events <= 12; events++) {
            Check.same("addEvent", x.addEvent(events < 5 ? 1 : 3, 50), events);
        }
        Check.refusesState("a thirteenth event", () -> x.addEvent(3, 50));
        Check.refusesArgument("a thirteenth event of no work", () -> x.addEvent(3, 0));
        Check.same("state()", x.state(), 3);
        x.play(1);
        Check.same("served() at 1", x.served(), 150);
        x.play(1);
        Check.same("served() at 2", x.served(), 150);
        x.play(1);
        Check.same("served() at 3", x.served(), 550);
        Check.same("addEvent", x.addEvent(4, 1), 2);
        Check.same("timers()", x.timers(), 0);
        Check.same("nextWakeup()", x.nextWakeup(), -1);
    }

    private static void promise14SetRule() {
        Check.part("promise 14");
        SleepPlanner x = asleep();
        String before = look(x);
        for (int wrong : new int[] {-1, 3, MIN, MAX}) {
            Check.refusesArgument("setRule", () -> x.setRule(wrong));
        }
        unchanged(x, before);
        Check.same("setRule(1)", x.setRule(1), 1);
        awokenFor(x, 601 + 800);
        Check.same("setRule(0)", x.setRule(0), 1);
        Check.same("setRule(2)", x.setRule(2), 0);
        rulesOfLatencyAndBreakEven();
        ruleOfHistory();
    }

    /** The state that is chosen at the tick 0 with a timer at a tick. */
    private static int chosen(int rule, int wakeup) {
        SleepPlanner x = new SleepPlanner();
        x.setRule(rule);
        x.schedule(wakeup, 0, 1);
        x.play(1);
        return x.state();
    }

    private static void rulesOfLatencyAndBreakEven() {
        int[][] byLatency = {{1, 1}, {2, 1}, {3, 2}, {7, 2}, {8, 3}};
        for (int[] row : byLatency) {
            Check.same("state() by rule 0 with k " + row[0], chosen(0, row[0]), row[1]);
        }
        int[][] byBreakEven = {{1, 0}, {2, 1}, {4, 1}, {5, 2}, {14, 2}, {15, 3}};
        for (int[] row : byBreakEven) {
            Check.same("state() by rule 1 with k " + row[0], chosen(1, row[0]), row[1]);
            Check.same("state() by rule 2 with k " + row[0], chosen(2, row[0]), row[1]);
        }
        SleepPlanner x = new SleepPlanner();
        x.setState(3, 1000, 10000, 100);
        x.play(1);
        Check.same("state() by rule 1 without an end, the state 3 having no break-even", x.state(), 2);
        x.setRule(0);
        x.play(1);
        Check.same("state() by rule 0 without an end", x.state(), 3);
    }

    private static void ruleOfHistory() {
        SleepPlanner x = new SleepPlanner();
        x.setRule(2);
        x.play(1);
        Check.same("state() by rule 2 with no idle time", x.state(), 3);
        x.play(13);
        x.vote(0, 3);
        x.play(1);
        Check.same("state() with the mean 14", x.state(), 2);
        x.play(15);
        x.vote(0, 3);
        x.play(1);
        Check.same("state() with the mean of 14 and 16", x.state(), 3);
        // 14, 16, 1, 1: 8; then 16, 1, 1, 1: 4; then 1, 1, 1, 1, and state 0 for good.
        x.vote(0, 3);
        x.play(1);
        x.vote(0, 3);
        x.play(1);
        Check.same("state() with the mean 8", x.state(), 2);
        x.vote(0, 3);
        x.play(1);
        Check.same("state() with the mean 4 of the last four", x.state(), 1);
        x.vote(0, 3);
        x.play(1);
        Check.same("state() with the mean 1", x.state(), 0);
        x.play(50);
        Check.same("state() when no idle time comes to it", x.state(), 0);
        Check.same("sleeps()", x.sleeps(), 6);
    }

    private static void promise15Timers() {
        Check.part("promise 15");
        SleepPlanner x = new SleepPlanner();
        x.schedule(5, 0, 1);
        x.schedule(5, 0, 1);
        x.addEvent(3, 1);
        Check.same("timers()", x.timers(), 2);
        x.play(5);
        Check.same("timers() ahead of the tick", x.timers(), 2);
        x.play(1);
        Check.same("timers() behind it", x.timers(), 0);
    }

    private static void promise16NextWakeup() {
        Check.part("promise 16");
        SleepPlanner x = new SleepPlanner();
        Check.same("nextWakeup() without timers", x.nextWakeup(), -1);
        x.addEvent(3, 1);
        Check.same("nextWakeup() with an event", x.nextWakeup(), -1);
        x.schedule(10, 50, 1);
        Check.same("nextWakeup()", x.nextWakeup(), 60);
        x.schedule(20, 5, 1);
        Check.same("nextWakeup() with a later due tick", x.nextWakeup(), 25);
        x.schedule(0, 0, 1);
        Check.same("nextWakeup() at once", x.nextWakeup(), 0);
        x.play(1);
        Check.same("nextWakeup()", x.nextWakeup(), 25);
        x.play(25);
        Check.same("nextWakeup() when the slack was taken", x.nextWakeup(), -1);
    }

    private static void promise17Play() {
        Check.part("promise 17");
        SleepPlanner x = asleep();
        String before = look(x);
        for (int wrong : new int[] {0, 201, -1, MIN, MAX}) {
            Check.refusesArgument("play", () -> x.play(wrong));
        }
        unchanged(x, before);
        Check.same("play(1)", x.play(1), 2);
        Check.same("play(200)", x.play(200), 202);
        SleepPlanner one = new SleepPlanner();
        SleepPlanner many = new SleepPlanner();
        for (SleepPlanner each : new SleepPlanner[] {one, many}) {
            each.schedule(10, 20, 3);
            each.schedule(12, 3, 3);
            each.addEvent(13, 1);
            each.addEvent(40, 1);
        }
        one.play(60);
        for (int tick = 0; tick < 60; tick++) {
            many.play(1);
        }
        Check.sameOutcome("60 ticks one by one", look(many), look(one));
    }

    private static void promise18Now() {
        Check.part("promise 18");
        SleepPlanner x = new SleepPlanner();
        x.play(7);
        Check.same("now()", x.now(), 7);
        x.schedule(7, 0, 1);
        Check.same("now() after other calls", x.now(), 7);
        x.play(200);
        Check.same("now()", x.now(), 207);
    }

    private static void promise19State() {
        Check.part("promise 19");
        SleepPlanner x = new SleepPlanner();
        x.schedule(20, 0, 1);
        x.schedule(21, 0, 1);
        x.play(20);
        Check.same("state() while it wakes", x.state(), 3);
        x.play(1);
        Check.same("state() with one tick to the next wakeup", x.state(), 0);
        x.play(1);
        Check.same("state() without an end", x.state(), 3);
        x.vote(2, 1);
        Check.same("state() woken by a call", x.state(), 0);
        x.play(1);
        Check.same("state() with the vote", x.state(), 1);
        x.addEvent(30, 1);
        x.setHarvest(0, 1);
        x.frequency(0);
        x.plannedWakeups(30);
        x.fewestWakeups(30);
        x.plannedCost(30);
        x.leastCost(30);
        Check.same("state() after calls that do not wake", x.state(), 1);
    }

    private static void promise20Spent() {
        Check.part("promise 20");
        SleepPlanner x = new SleepPlanner();
        x.schedule(20, 0, 3);
        x.addEvent(2, 2);
        x.play(1);
        Check.same("spent() asleep in 3", x.spent(), 601);
        x.play(1);
        Check.same("spent()", x.spent(), 602);
        // Wakes from 3 for the event, works 2, falls asleep in 3 again, 18 ticks ahead of the timer.
        x.play(1);
        Check.same("spent() with the event", x.spent(), 602 + 800 + 200 + 601);
        x.play(9);
        Check.same("spent() at 12", x.spent(), 2203 + 9);
        x.play(8);
        Check.same("spent() while it wakes", x.spent(), 2212 + 800);
        x.play(1);
        Check.same("spent() with the timer", x.spent(), 3012 + 300 + 601);
        x.vote(0, 0);
        x.play(10);
        Check.same("spent() awake", x.spent(), 3913 + 800 + 1000);
        wakeningByCallInLastTicks();
    }

    private static void wakeningByCallInLastTicks() {
        SleepPlanner x = new SleepPlanner();
        x.schedule(20, 0, 1);
        x.play(18);
        Check.same("spent() at 18", x.spent(), 600 + 12 + 600);
        x.setRule(1);
        Check.same("spent() when a call wakes it in its last ticks", x.spent(), 1212 + 800);
        SleepPlanner y = new SleepPlanner();
        y.schedule(20, 0, 1);
        y.addEvent(18, 1);
        y.play(19);
        // With two ticks left, the state 1 is chosen: 20 + 40.
        Check.same("spent() when an event wakes it in its last ticks", y.spent(), 1212 + 800 + 100 + 60);
        Check.same("lateness()", y.lateness(), 8);
    }

    private static void promise21TicksIn() {
        Check.part("promise 21");
        SleepPlanner x = new SleepPlanner();
        for (int wrong : new int[] {-1, 4, MIN, MAX}) {
            Check.refusesArgument("ticksIn", () -> x.ticksIn(wrong));
        }
        x.schedule(20, 0, 1);
        x.schedule(25, 0, 1);
        x.schedule(27, 0, 1);
        x.schedule(28, 0, 1);
        x.play(29);
        int[] due = {1, 2, 5, 21};
        for (int state = 0; state < 4; state++) {
            Check.same("ticksIn(" + state + ")", x.ticksIn(state), due[state]);
        }
    }

    private static void promise22Sleeps() {
        Check.part("promise 22");
        SleepPlanner x = new SleepPlanner();
        x.play(50);
        Check.same("sleeps()", x.sleeps(), 1);
        x.addEvent(50, 1);
        x.play(1);
        Check.same("sleeps() again in one tick", x.sleeps(), 2);
        x.vote(0, 0);
        x.play(10);
        Check.same("sleeps() kept awake", x.sleeps(), 2);
        x.vote(0, 1);
        x.play(1);
        Check.same("sleeps()", x.sleeps(), 3);
    }

    private static void promise23Lateness() {
        Check.part("promise 23");
        SleepPlanner x = new SleepPlanner();
        x.addEvent(0, 1);
        x.play(1);
        Check.same("lateness() of an event when awake", x.lateness(), 0);
        x.addEvent(5, 1);
        x.addEvent(5, 1);
        x.play(5);
        Check.same("lateness() of two events in one tick", x.lateness(), 8);
        x.schedule(30, 0, 1);
        x.addEvent(30, 1);
        x.play(25);
        Check.same("lateness() with the next known wakeup", x.lateness(), 8);
        x.vote(0, 2);
        x.play(1);
        x.addEvent(40, 1);
        x.play(9);
        Check.same("lateness() with the state 2", x.lateness(), 11);
    }

    private static void promise24Served() {
        Check.part("promise 24");
        SleepPlanner x = new SleepPlanner();
        x.schedule(10, 100, 50);
        x.schedule(11, 100, 7);
        x.schedule(80, 0, 2);
        x.addEvent(10, 3);
        x.play(10);
        Check.same("served() ahead of all", x.served(), 0);
        x.play(1);
        Check.same("served() with a timer that is due", x.served(), 53);
        x.play(50);
        Check.same("served() with slack left", x.served(), 53);
        x.play(20);
        Check.same("served() at a wakeup", x.served(), 62);
        Check.same("timers()", x.timers(), 0);
    }

    private static void promise25SetHarvest() {
        Check.part("promise 25");
        SleepPlanner x = asleep();
        String before = look(x);
        int[][] wrong = {{-1, 0}, {24, 0}, {MIN, 0}, {MAX, 0}, {0, -1}, {0, 1001}, {0, MIN}, {0, MAX}};
        for (int[] w : wrong) {
            Check.refusesArgument("setHarvest", () -> x.setHarvest(w[0], w[1]));
        }
        Check.same("setHarvest(23, 1000)", x.setHarvest(23, 1000), 0);
        Check.same("setHarvest(23, 0)", x.setHarvest(23, 0), 1000);
        Check.same("setHarvest(0, 5)", x.setHarvest(0, 5), 0);
        Check.same("setHarvest(0, 6)", x.setHarvest(0, 6), 5);
        x.setHarvest(0, 0);
        unchanged(x, before);
        harvestByHour();
    }

    /** With no power at all and a little harvest, the hour is seen in the wells. */
    private static void harvestByHour() {
        SleepPlanner x = new SleepPlanner();
        x.vote(0, 0);
        x.setAwake(1000);
        x.play(200);
        x.setAwake(0);
        x.setHarvest(4, 1);
        x.setHarvest(23, 2);
        int all = x.available() + x.bound();
        x.play(40);
        Check.same("both wells at 240", x.available() + x.bound(), all);
        x.play(60);
        Check.same("both wells at 300", x.available() + x.bound(), all + 60);
        for (int hour = 5; hour < 24; hour++) {
            x.play(60);
        }
        Check.same("both wells at 1440", x.available() + x.bound(), all + 180);
        x.play(200);
        x.play(40);
        Check.same("both wells at the hour 4 of the second day", x.available() + x.bound(), all + 180);
        x.play(1);
        Check.same("both wells a tick later", x.available() + x.bound(), all + 181);
    }

    private static void promise26Available() {
        Check.part("promise 26");
        SleepPlanner x = new SleepPlanner();
        // 50000 - 601, then 601 / 16, rounded down, from the bound well.
        x.play(1);
        Check.same("available()", x.available(), 49399 + 37);
        Check.same("bound()", x.bound(), 100000 - 37);
        SleepPlanner y = new SleepPlanner();
        y.setHarvest(0, 1000);
        y.play(1);
        Check.same("available() that is full", y.available(), 50000);
        Check.same("bound() that is full", y.bound(), 100000);
        x.vote(0, 0);
        Check.same("available() ahead of the tick that takes it", x.available(), 49436);
        x.play(1);
        // It loses 800 and 100; half of 99963 is 49981.
        Check.same("available()", x.available(), 48536 + (49981 - 48536) / 16);
    }

    private static void promise27Bound() {
        Check.part("promise 27");
        SleepPlanner x = new SleepPlanner();
        x.vote(0, 0);
        x.setAwake(16);
        x.play(1);
        Check.same("bound() when 16 are lacking", x.bound(), 99999);
        SleepPlanner y = new SleepPlanner();
        y.vote(0, 0);
        y.setAwake(15);
        y.play(1);
        Check.same("bound() when 15 are lacking", y.bound(), 100000);
        Check.same("available()", y.available(), 49985);
        flowBack();
    }

    /** Below 0 it is rounded down too: from -1 on, one goes back into the bound well. */
    private static void flowBack() {
        SleepPlanner x = new SleepPlanner();
        x.vote(0, 0);
        x.setAwake(16);
        x.play(1);
        x.setAwake(0);
        x.setHarvest(0, 15);
        // 49985 + 15; half of 99999 is 49999, so x is -1 / 16, rounded down.
        x.play(1);
        Check.same("available() from which one goes", x.available(), 49999);
        Check.same("bound() to which it goes", x.bound(), 100000);
        x.play(1);
        Check.same("available() that is cut at 50000", x.available(), 50000);
        Check.same("bound() that can hold no more", x.bound(), 100000);
    }

    private static void promise28ShortTicks() {
        Check.part("promise 28");
        SleepPlanner x = new SleepPlanner();
        x.vote(0, 0);
        x.setAwake(1000);
        x.schedule(0, 0, 49);
        x.play(1);
        Check.same("shortTicks() with nothing left, but not below", x.shortTicks(), 0);
        Check.same("available()", x.available(), 50000 / 16);
        SleepPlanner y = new SleepPlanner();
        y.vote(0, 0);
        y.setAwake(1000);
        y.schedule(0, 0, 49);
        y.addEvent(0, 1);
        y.play(1);
        Check.same("shortTicks()", y.shortTicks(), 1);
        Check.same("available() from 0", y.available(), 50000 / 16);
        Check.same("bound()", y.bound(), 100000 - 50000 / 16);
        y.play(2);
        Check.same("shortTicks() with enough", y.shortTicks(), 1);
    }

    /** Timers whose wakeups are at 15, 20, 40 and 60, one of them due ahead of now. */
    private static SleepPlanner timersAtThree() {
        SleepPlanner x = new SleepPlanner();
        x.schedule(2, 13, 1);
        x.play(3);
        x.vote(0, 3);
        x.schedule(12, 10, 1);
        x.schedule(20, 0, 1);
        x.schedule(16, 30, 1);
        x.schedule(30, 10, 1);
        x.schedule(41, 19, 1);
        return x;
    }

    private static void wrongUntil(String name, SleepPlanner x, java.util.function.IntToLongFunction plan) {
        int[] wrong = {x.now() - 1, x.now() + 401, -1, MIN, MAX};
        for (int until : wrong) {
            Check.refusesArgument(name, () -> plan.applyAsLong(until));
        }
        Check.same(name + " at now, 0 for nothing", plan.applyAsLong(x.now()), 0);
        Check.isTrue(name + " at now + 400", plan.applyAsLong(x.now() + 400) > 0);
    }

    private static void promise29PlannedWakeups() {
        Check.part("promise 29");
        SleepPlanner x = new SleepPlanner();
        x.schedule(10, 5, 1);
        wrongUntil("plannedWakeups", x, x::plannedWakeups);
        SleepPlanner y = timersAtThree();
        wrongUntil("plannedWakeups", y, y::plannedWakeups);
        int[][] due = {{15, 0}, {16, 1}, {20, 1}, {21, 2}, {23, 2}, {40, 2}, {41, 3}, {60, 3}, {61, 4}, {403, 4}};
        for (int[] row : due) {
            Check.same("plannedWakeups(" + row[0] + ")", y.plannedWakeups(row[0]), row[1]);
        }
    }

    private static void promise30FewestWakeups() {
        Check.part("promise 30");
        SleepPlanner x = new SleepPlanner();
        x.schedule(10, 5, 1);
        wrongUntil("fewestWakeups", x, x::fewestWakeups);
        SleepPlanner y = timersAtThree();
        wrongUntil("fewestWakeups", y, y::fewestWakeups);
        int[][] due = {{15, 0}, {16, 1}, {20, 1}, {21, 2}, {23, 2}, {40, 2}, {41, 3}, {60, 3}, {61, 4}, {403, 4}};
        for (int[] row : due) {
            Check.same("fewestWakeups(" + row[0] + ")", y.fewestWakeups(row[0]), row[1]);
        }
        SleepPlanner z = new SleepPlanner();
        z.schedule(0, 0, 1);
        Check.same("fewestWakeups(0)", z.fewestWakeups(0), 0);
        Check.same("fewestWakeups(1) with a timer that is due now", z.fewestWakeups(1), 1);
        z.schedule(0, 300, 1);
        z.schedule(0, 1, 1);
        Check.same("fewestWakeups(400) with one wakeup for all", z.fewestWakeups(400), 1);
    }

    private static void promise31PlannedCost() {
        Check.part("promise 31");
        SleepPlanner x = new SleepPlanner();
        wrongUntil("plannedCost", x, x::plannedCost);
        Check.same("plannedCost(1)", x.plannedCost(1), 100);
        Check.same("plannedCost(2)", x.plannedCost(2), 20 + 40 + 100);
        Check.same("plannedCost(5)", x.plannedCost(5), 150 + 20 + 300);
        Check.same("plannedCost(15)", x.plannedCost(15), 600 + 7 + 800);
        x.schedule(10, 10, 50);
        x.addEvent(15, 50);
        Check.same("plannedCost(20) with a timer that is not below", x.plannedCost(20), 600 + 12 + 800);
        // 20 ticks in the state 3, then one in the state 0; works cost nothing here.
        Check.same("plannedCost(21)", x.plannedCost(21), 1412 + 100);
        x.schedule(0, 0, 1);
        Check.same("plannedCost(21) with a wakeup now", x.plannedCost(21), 1412 + 100);
        x.vote(0, 1);
        Check.same("plannedCost(21) with a depth of 1", x.plannedCost(21), 20 + 19 * 40 + 100 + 100);
        x.vote(0, 0);
        Check.same("plannedCost(21) with a depth of 0", x.plannedCost(21), 2100);
        x.setRule(0);
        x.vote(0, 3);
        Check.same("plannedCost(21) by rule 1, also if the rule is 0", x.plannedCost(21), 1512);
        // 12 ticks to 15, 5 to 20, 20 to 40, and one to the end.
        Check.same("plannedCost(41) from 3", timersAtThree().plannedCost(41), 540 + 470 + 1412 + 100);
    }

    private static void promise32LeastCost() {
        Check.part("promise 32");
        SleepPlanner x = new SleepPlanner();
        wrongUntil("leastCost", x, x::leastCost);
        Check.same("leastCost(1)", x.leastCost(1), 100);
        // The state 2 is better than the state 3, which the governor takes: 150 + 12 * 10 + 300.
        Check.same("leastCost(15)", x.leastCost(15), 570);
        x.vote(0, 1);
        Check.same("leastCost(15) with a depth of 1", x.leastCost(15), 20 + 14 * 40 + 100);
        x.vote(0, 3);
        // A timer can be served now, for nothing.
        x.schedule(0, 14, 1);
        Check.same("leastCost(15) with a timer that can be served now", x.leastCost(15), 570);
        Check.same("plannedCost(15)", x.plannedCost(15), 150 + 110 + 300 + 100);
        SleepPlanner y = new SleepPlanner();
        y.setState(1, 100, 0, 0);
        y.setState(2, 0, 100, 0);
        y.setState(3, 1000, 0, 0);
        y.schedule(1, 50, 1);
        // Awake for a tick, then asleep to the end.
        Check.same("leastCost(100)", y.leastCost(100), 200);
        y.vote(0, 1);
        Check.same("leastCost(100) with a depth of 1", y.leastCost(100), 10000);
        // Served at 3, 20 and 40: 17 ticks and 20 ticks in the state 2, and one in the state 0.
        Check.same("leastCost(41) from 3", timersAtThree().leastCost(41), 590 + 620 + 100);
    }
}
