/** The section "Terms" (but for the wells, the plans and what wakes): each sentence that names a boundary case. */
public final class TermsTest {
    private TermsTest() {
    }

    public static void main(String[] args) {
        lastCall();
        firstTick();
        firstValues();
        stateZeroStays();
        breakEvenFromTheLatencyOn();
        breakEvenUpTo5000();
        breakEvenAtEqualCosts();
        noBreakEven();
        depthByVotes();
        depthByClocks();
        runningByChildren();
        usedAsOftenAsTold();
        frequenciesRoundedDown();
        Check.end("TermsTest");
    }

    private static SleepPlanner afterCalls(int calls) {
        SleepPlanner x = new SleepPlanner();
        for (int call = 0; call < calls; call++) {
            x.play(200);
        }
        return x;
    }

    private static void lastCall() {
        Check.part("used for at most 512 calls");
        Check.same("play(200) as the last call", afterCalls(511).play(200), 102400);
        Check.same("now() as the last call", afterCalls(511).now(), 102200);
        Check.same("spent() as the last call", afterCalls(511).spent(), 600 + 102200);
        Check.same("ticksIn(3) as the last call", afterCalls(511).ticksIn(3), 102200);
        Check.same("leastCost() as the last call", afterCalls(511).leastCost(102600), 600 + 392 + 800);
        SleepPlanner x = afterCalls(510);
        Check.same("schedule() as the last call but one", x.schedule(103000, 500, 50), 1);
        Check.same("nextWakeup() as the last call", x.nextWakeup(), 103500);
    }

    private static void firstTick() {
        Check.part("ticks from 0");
        SleepPlanner x = new SleepPlanner();
        Check.same("now()", x.now(), 0);
        x.addEvent(0, 4);
        x.schedule(0, 0, 3);
        Check.same("served() ahead of the tick 0", x.served(), 0);
        Check.same("play(1)", x.play(1), 1);
        Check.same("served() at the tick 0", x.served(), 7);
    }

    private static void firstValues() {
        Check.part("the powers, costs and latencies at first");
        int[] powers = {100, 40, 10, 1};
        int[] costs = {0, 20, 150, 600};
        int[] latencies = {0, 1, 3, 8};
        for (int state = 0; state <= 3; state++) {
            SleepPlanner x = new SleepPlanner();
            x.vote(0, state);
            x.play(1);
            Check.same("state()", x.state(), state);
            Check.same("spent() at the first tick in " + state, x.spent(), costs[state] + powers[state]);
            x.play(1);
            Check.same("spent() at the second tick in " + state, x.spent(), costs[state] + 2 * powers[state]);
            x.vote(0, state);
            Check.same("spent() woken from " + state, x.spent(),
                    costs[state] + 2 * powers[state] + 100 * latencies[state]);
        }
    }

    private static void stateZeroStays() {
        Check.part("cost and latency of state 0 stay 0");
        SleepPlanner x = new SleepPlanner();
        x.vote(0, 0);
        Check.refusesArgument("setState(0, ..)", () -> {
            x.setState(0, 1000, 10000, 100);
            return 0;
        });
        x.setAwake(60);
        x.play(1);
        Check.same("spent() at a tick in 0", x.spent(), 60);
        x.addEvent(1, 1);
        x.vote(0, 0);
        x.play(1);
        Check.same("spent() with an event in 0", x.spent(), 60 + 60 + 60);
        Check.same("lateness()", x.lateness(), 0);
        Check.same("sleeps()", x.sleeps(), 0);
        Check.same("plannedCost() in 0", x.plannedCost(12), 600);
    }

    private static int breakEven(int awake, int power, int cost, int latency) {
        SleepPlanner x = new SleepPlanner();
        x.setAwake(awake);
        x.setState(2, power, cost, latency);
        return x.breakEven(2);
    }

    private static void breakEvenFromTheLatencyOn() {
        Check.part("break-even: from its latency on");
        Check.same("no cost, no latency", breakEven(100, 0, 0, 0), 0);
        Check.same("no cost, a latency", breakEven(100, 0, 0, 7), 7);
        Check.same("no cost, the greatest latency", breakEven(100, 0, 0, 100), 100);
        Check.same("no cost, no gain", breakEven(100, 100, 0, 7), 7);
        // Below the latency a greater power would look as if it saved something.
        Check.same("no cost, a greater power", breakEven(100, 1000, 0, 50), 50);
        Check.same("a cost, a greater power", breakEven(100, 1000, 100, 50), -1);
        Check.same("no power at all", breakEven(0, 0, 0, 9), 9);
        Check.same("no power but in the state, no cost", breakEven(0, 1, 0, 9), 9);
        Check.same("a cost of 1", breakEven(1000, 0, 1, 9), 10);
    }

    private static void breakEvenUpTo5000() {
        Check.part("break-even: up to 5000");
        Check.same("4999", breakEven(100, 99, 4999, 0), 4999);
        Check.same("5000", breakEven(100, 99, 5000, 0), 5000);
        Check.same("5001", breakEven(100, 99, 5001, 0), -1);
        Check.same("5000 with the greatest latency", breakEven(100, 99, 4900, 100), 5000);
        Check.same("5001 with the greatest latency", breakEven(100, 99, 4901, 100), -1);
        Check.same("5000 with the greatest cost", breakEven(1000, 998, 10000, 0), 5000);
        Check.same("5001 with the greatest cost", breakEven(1000, 998, 10000, 1), -1);
        Check.same("5000, rounded up", breakEven(1000, 998, 9999, 0), 5000);
        Check.same("5001, rounded up", breakEven(1000, 998, 9999, 1), -1);
        Check.same("10000", breakEven(1, 0, 10000, 0), -1);
        SleepPlanner x = new SleepPlanner();
        x.setState(3, 99, 5000, 0);
        x.play(1);
        Check.same("state() with a break-even of 5000 and no end", x.state(), 3);
        x.setState(3, 99, 5001, 0);
        x.play(1);
        Check.same("state() with none and no end", x.state(), 2);
    }

    private static void breakEvenAtEqualCosts() {
        Check.part("break-even: no more than n times the power of state 0");
        Check.same("equal at 1", breakEven(100, 40, 60, 0), 1);
        Check.same("1 too much at 1", breakEven(100, 40, 61, 0), 2);
        Check.same("equal at 2", breakEven(100, 40, 120, 0), 2);
        Check.same("1 too much at 2", breakEven(100, 40, 121, 0), 3);
        Check.same("equal behind a latency", breakEven(100, 10, 900, 4), 14);
        Check.same("1 less behind a latency", breakEven(100, 10, 899, 4), 14);
        Check.same("1 more behind a latency", breakEven(100, 10, 901, 4), 15);
        Check.same("the least and the greatest", breakEven(1000, 0, 10000, 100), 110);
    }

    private static void noBreakEven() {
        Check.part("break-even: a state may have none");
        Check.same("a cost and no gain", breakEven(100, 100, 1, 0), -1);
        Check.same("a cost and a gain of 1", breakEven(100, 99, 1, 0), 1);
        Check.same("a cost and a loss", breakEven(100, 101, 1, 0), -1);
        Check.same("no cost and a loss", breakEven(100, 101, 0, 0), 0);
        Check.same("a cost and no power at all", breakEven(0, 0, 1, 0), -1);
        SleepPlanner x = new SleepPlanner();
        for (int state = 1; state <= 3; state++) {
            x.setState(state, 100, 1, 0);
        }
        x.play(1);
        Check.same("state() by rule 1 when none has one", x.state(), 0);
        x.setRule(2);
        x.play(1);
        Check.same("state() by rule 2 when none has one", x.state(), 0);
        Check.same("plannedCost() when none has one", x.plannedCost(402), 40000);
        x.setRule(0);
        x.play(1);
        Check.same("state() by rule 0 when none has one", x.state(), 3);
    }

    private static void depthByVotes() {
        Check.part("depth: the least of all votes, 3 at first");
        SleepPlanner x = new SleepPlanner();
        Check.same("depth() at first", x.depth(), 3);
        for (int driver = 0; driver <= 5; driver++) {
            Check.same("the vote of " + driver + " at first", x.vote(driver, 2), 3);
        }
        Check.same("depth() when all vote 2", x.depth(), 2);
        for (int driver = 0; driver <= 4; driver++) {
            x.vote(driver, 3);
            Check.same("depth() when some vote 3", x.depth(), 2);
        }
        x.vote(5, 3);
        Check.same("depth() when all vote 3", x.depth(), 3);
        x.vote(0, 1);
        x.vote(5, 0);
        Check.same("depth() with the last one", x.depth(), 0);
        x.vote(5, 1);
        Check.same("depth() with two that are alike", x.depth(), 1);
    }

    private static void depthByClocks() {
        Check.part("depth: the clocks other than 0 that run");
        SleepPlanner x = new SleepPlanner();
        x.use(0);
        Check.same("depth() with the clock 0 used", x.depth(), 3);
        for (int clock = 1; clock <= 7; clock++) {
            x.addClock(0, 1, clock == 7 ? 0 : 2);
        }
        Check.same("depth() with none used", x.depth(), 3);
        x.use(1);
        Check.same("depth() with the clock 1", x.depth(), 2);
        x.use(7);
        Check.same("depth() with the clock 7 too", x.depth(), 0);
        x.release(7);
        x.release(1);
        Check.same("depth() with none used any more", x.depth(), 3);
        x.vote(0, 2);
        x.use(1);
        Check.same("depth() with a vote and a clock that are alike", x.depth(), 2);
        x.vote(0, 1);
        Check.same("depth() with a lesser vote", x.depth(), 1);
        x.vote(0, 3);
        Check.same("depth() with a lesser clock", x.depth(), 2);
    }

    private static long running(SleepPlanner x, int clocks) {
        long digits = 0;
        for (int clock = 0; clock < clocks; clock++) {
            digits = digits * 10 + (x.runs(clock) ? 1 : 0);
        }
        return digits;
    }

    private static void runningByChildren() {
        Check.part("a clock runs if it is used, or a clock whose parent it is runs");
        SleepPlanner x = new SleepPlanner();
        for (int clock = 1; clock <= 7; clock++) {
            x.addClock(clock - 1, 1, clock == 1 ? 1 : 3);
        }
        Check.same("none is used", running(x, 8), 0);
        x.use(7);
        Check.same("the last of a chain is used", running(x, 8), 11111111);
        Check.same("depth() by the far parent", x.depth(), 1);
        x.release(7);
        Check.same("the last of a chain is used no more", running(x, 8), 0);
        x.use(0);
        Check.same("the first of a chain is used", running(x, 8), 10000000);
        SleepPlanner y = new SleepPlanner();
        for (int clock = 1; clock <= 6; clock++) {
            y.addClock((clock - 1) / 2, 1, 3);
        }
        y.use(4);
        Check.same("a leaf of a tree", running(y, 7), 1100100);
        y.use(2);
        Check.same("a leaf and a branch", running(y, 7), 1110100);
        y.release(4);
        Check.same("a branch", running(y, 7), 1010000);
    }

    private static void usedAsOftenAsTold() {
        Check.part("a clock is used as often as told");
        SleepPlanner x = new SleepPlanner();
        x.addClock(0, 1, 2);
        Check.same("runs(1) when it is new", x.runs(1) ? 1 : 0, 0);
        x.use(1);
        x.use(1);
        x.release(1);
        Check.same("runs(1), used once less than twice", x.runs(1) ? 1 : 0, 1);
        Check.same("depth()", x.depth(), 2);
        x.release(1);
        Check.same("runs(1), used twice less than twice", x.runs(1) ? 1 : 0, 0);
        Check.same("depth()", x.depth(), 3);
    }

    private static void frequenciesRoundedDown() {
        Check.part("frequency: rounded down");
        SleepPlanner x = new SleepPlanner();
        int[] dividers = {0, 64, 64, 64, 1, 7};
        int[] parents = {0, 0, 1, 2, 3, 0};
        int[] due = {4800, 75, 1, 0, 0, 685};
        for (int clock = 1; clock < due.length; clock++) {
            x.addClock(parents[clock], dividers[clock], 3);
        }
        for (int clock = 0; clock < due.length; clock++) {
            Check.same("frequency(" + clock + ")", x.frequency(clock), due[clock]);
        }
        x.addClock(1, 38, 3);
        Check.same("frequency of 75 by 38", x.frequency(6), 1);
        x.addClock(6, 2, 3);
        Check.same("frequency of 1 by 2", x.frequency(7), 0);
    }
}
