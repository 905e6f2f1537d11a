/** Promises 29 to 32: each sentence that names a boundary case. */
public final class PlansTest {
    private PlansTest() {
    }

    public static void main(String[] args) {
        latestBelowATick();
        dueByAWakeup();
        noneAndTwelve();
        wakeupNow();
        plansOfTheAsleep();
        plannedIdleTimes();
        plannedByTheDepth();
        plannedByRule1Alone();
        nowServesNothingAsPlanned();
        leastServesNow();
        leastBetweenDueAndLatest();
        leastByTheDepth();
        leastFitsTheLatency();
        leastWithMoreWakeups();
        noEventsAndNoWorks();
        Check.end("PlansTest");
    }

    /** Timers by due tick and slack, on a new object. */
    private static SleepPlanner with(int... dueAndSlack) {
        SleepPlanner x = new SleepPlanner();
        for (int i = 0; i + 1 < dueAndSlack.length; i += 2) {
            x.schedule(dueAndSlack[i], dueAndSlack[i + 1], 1);
        }
        return x;
    }

    private static void wakeups(String what, SleepPlanner x, int until, int due) {
        Check.same("plannedWakeups() " + what, x.plannedWakeups(until), due);
        Check.same("fewestWakeups() " + what, x.fewestWakeups(until), due);
    }

    private static void costs(String what, SleepPlanner x, int until, int planned, int least) {
        Check.same("plannedCost() " + what, x.plannedCost(until), planned);
        Check.same("leastCost() " + what, x.leastCost(until), least);
    }

    private static void latestBelowATick() {
        Check.part("the timers whose latest ticks are below a tick");
        SleepPlanner x = with(20, 10);
        wakeups("until its due tick", x, 20, 0);
        wakeups("until its latest tick", x, 30, 0);
        wakeups("until the tick behind it", x, 31, 1);
        wakeups("until 400", x, 400, 1);
        costs("until its latest tick", x, 30, 600 + 22 + 800, 150 + 270 + 300);
        costs("until the tick behind it", x, 31, 1422 + 100, 720 + 100);
        SleepPlanner y = with(100, 300, 0, 399);
        wakeups("until 399 with timers to 399 and 400", y, 399, 0);
        wakeups("until 400 with timers to 399 and 400", y, 400, 1);
        // The timer that is not meant has no wakeup, though it would be the first one.
        SleepPlanner z = with(5, 45, 10, 1);
        wakeups("with one that is not meant", z, 50, 1);
        wakeups("with both meant", z, 51, 1);
    }

    private static void dueByAWakeup() {
        Check.part("all of them that are due by then are served");
        wakeups("with one due at the wakeup", with(10, 10, 20, 100), 400, 1);
        wakeups("with one due behind the wakeup", with(10, 10, 21, 100), 400, 2);
        wakeups("with one due at the second wakeup", with(10, 10, 21, 9, 30, 50), 400, 2);
        wakeups("with one due behind the second wakeup", with(10, 10, 21, 9, 31, 50), 400, 3);
        wakeups("whose latest ticks are alike", with(10, 10, 20, 0, 0, 20), 400, 1);
        wakeups("with no slack, a tick between", with(10, 0, 11, 0), 400, 2);
        wakeups("with the last one first", with(30, 100, 25, 10, 10, 20), 400, 1);
        wakeups("with those that could wait, too", with(10, 10, 15, 300, 300, 5), 400, 2);
    }

    private static void noneAndTwelve() {
        Check.part("no timers, and twelve");
        SleepPlanner none = new SleepPlanner();
        for (int until : new int[] {0, 1, 400}) {
            wakeups("of none", none, until, 0);
        }
        SleepPlanner apart = new SleepPlanner();
        SleepPlanner together = new SleepPlanner();
        for (int i = 0; i < 12; i++) {
            apart.schedule(10 + 30 * i, 29, 1);
            together.schedule(10 + i, 100 + 10 * i, 1);
        }
        wakeups("of twelve that are apart", apart, 400, 12);
        wakeups("of eleven of them", apart, 369, 11);
        wakeups("of twelve together", together, 400, 1);
        wakeups("of the first one of them", together, 111, 1);
        wakeups("ahead of the first one", together, 110, 0);
    }

    private static void wakeupNow() {
        Check.part("a wakeup now");
        SleepPlanner x = with(0, 0);
        wakeups("until now", x, 0, 0);
        wakeups("until the next tick", x, 1, 1);
        costs("until now", x, 0, 0, 0);
        costs("until the next tick", x, 1, 100, 100);
        costs("until 15", x, 15, 600 + 7 + 800, 150 + 120 + 300);
        wakeups("that serves others too", with(0, 0, 0, 200, 0, 300), 400, 1);
        wakeups("that does not serve one due a tick later", with(0, 0, 1, 200), 400, 2);
        // An idle time of no ticks costs nothing, also in a state that it would be long enough for.
        SleepPlanner y = with(0, 0);
        y.setState(3, 1000, 0, 0);
        costs("with the latency 0 and the cost 0", y, 0, 0, 0);
        SleepPlanner z = with(0, 0);
        z.setState(3, 0, 7, 0);
        costs("with the latency 0 and a cost", z, 0, 0, 0);
        costs("with the latency 0 and a cost, and a tick", z, 1, 7, 7);
    }

    private static void plansOfTheAsleep() {
        Check.part("timers that are due, while the device is asleep");
        SleepPlanner x = with(5, 20, 30, 0);
        x.play(20);
        wakeups("with one due long ago", x, 31, 2);
        wakeups("until its latest tick", x, 25, 0);
        // As planned 5, 5 and 370 ticks; at best it is served now, and the 10 ticks to 30 are in the state 1.
        costs("with one due long ago", x, 400, 470 + 470 + (600 + 362 + 800), (20 + 360 + 100) + 1762);
        x.play(5);
        Check.same("timers()", x.timers(), 2);
        wakeups("with the latest tick now", x, 25, 0);
        wakeups("with the latest tick now, until the next tick", x, 26, 1);
        costs("with the latest tick now", x, 30, 470, 20 + 160 + 100);
        Check.same("state()", x.state(), 3);
        Check.same("sleeps()", x.sleeps(), 1);
    }

    private static void plannedIdleTimes() {
        Check.part("what the idle times cost, each by its break-evens");
        SleepPlanner x = new SleepPlanner();
        int[][] due = {{0, 0}, {1, 100}, {2, 160}, {4, 240}, {5, 470}, {14, 560}, {15, 1407}, {16, 1408}, {400, 1792}};
        for (int[] row : due) {
            Check.same("plannedCost() of " + row[0], x.plannedCost(row[0]), row[1]);
            SleepPlanner y = with(row[0] > 0 ? row[0] - 1 : 399, 0);
            int ahead = row[0] > 0 ? (int) x.plannedCost(row[0] - 1) + 100 : 0;
            Check.same("plannedCost() of one less and of 1", y.plannedCost(row[0]), ahead);
        }
        // 5, 5, 15 and 2 ticks.
        Check.same("plannedCost() of four", with(5, 0, 10, 0, 25, 0).plannedCost(27), 470 + 470 + 1407 + 160);
        SleepPlanner z = new SleepPlanner();
        z.setState(3, 99, 399, 0);
        Check.same("plannedCost() at a break-even of 399", z.plannedCost(399), 399 + 399 * 99);
        Check.same("plannedCost() ahead of a break-even of 399", z.plannedCost(398), 150 + 3950 + 300);
    }

    private static void plannedByTheDepth() {
        Check.part("with the depth as it is");
        int[] due = {4000, 20 + 39 * 40 + 100, 150 + 370 + 300, 600 + 32 + 800};
        for (int depth = 0; depth <= 3; depth++) {
            SleepPlanner x = new SleepPlanner();
            x.vote(5, depth);
            Check.same("plannedCost() with the depth " + depth, x.plannedCost(40), due[depth]);
            SleepPlanner y = new SleepPlanner();
            y.addClock(0, 1, depth);
            y.use(1);
            Check.same("plannedCost() with a clock down to " + depth, y.plannedCost(40), due[depth]);
        }
    }

    private static void plannedByRule1Alone() {
        Check.part("the state of each idle time chosen by rule 1");
        for (int rule = 0; rule <= 2; rule++) {
            SleepPlanner x = new SleepPlanner();
            x.play(1);
            x.setRule(rule);
            Check.same("plannedCost() of 14 with the rule " + rule, x.plannedCost(15), 560);
            Check.same("plannedCost() of 15 with the rule " + rule, x.plannedCost(16), 1407);
        }
        SleepPlanner y = new SleepPlanner();
        y.setState(3, 100, 1, 0);
        Check.same("plannedCost() without a break-even", y.plannedCost(40), 150 + 370 + 300);
    }

    private static void nowServesNothingAsPlanned() {
        Check.part("the wakeups of plannedWakeups(), now counted as one");
        SleepPlanner x = with(0, 20);
        wakeups("with one that is due now", x, 400, 1);
        Check.same("plannedCost() with one that is due now", x.plannedCost(40), (600 + 12 + 800) + (600 + 12 + 800));
    }

    private static void leastServesNow() {
        Check.part("a wakeup now is one, too, and costs nothing");
        int at40 = 150 + 370 + 300;
        Check.same("leastCost() with one due now", with(0, 20).leastCost(40), at40);
        Check.same("leastCost() with none", with().leastCost(40), at40);
        Check.same("leastCost() with one due at 1", with(1, 20).leastCost(40), 100 + at40 - 10);
        Check.same("leastCost() with one due now that must be served now", with(0, 0).leastCost(40), at40);
        Check.same("leastCost() with all due now", with(0, 0, 0, 5, 0, 38).leastCost(40), at40);
    }

    /** The state 3 costs 1000 for any ticks; the others are as dear as the state 0. */
    private static SleepPlanner oneWorthwhileState() {
        SleepPlanner x = new SleepPlanner();
        x.setState(1, 100, 0, 0);
        x.setState(2, 100, 0, 0);
        x.setState(3, 0, 1000, 0);
        return x;
    }

    private static void leastBetweenDueAndLatest() {
        Check.part("whichever ticks the wakeups come at that serve these timers");
        SleepPlanner x = oneWorthwhileState();
        x.schedule(50, 100, 1);
        Check.same("leastCost() with any tick from 50 to 150", x.leastCost(200), 2000);
        Check.same("leastCost() that ends at the latest tick", x.leastCost(150), 1000);
        Check.same("leastCost() that ends soon behind it", x.leastCost(153), 1000 + 300);
        Check.same("leastCost() that ends at the tick behind it", x.leastCost(151), 1000 + 100);
        SleepPlanner y = oneWorthwhileState();
        y.schedule(3, 100, 1);
        Check.same("leastCost() that is served at its due tick", y.leastCost(200), 300 + 1000);
        y.schedule(5, 100, 1);
        Check.same("leastCost() with two served at the later due tick", y.leastCost(200), 500 + 1000);
        y.schedule(2, 1, 1);
        // At 2 or 3, and at 5: with 5 ticks awake all the same.
        Check.same("leastCost() with one that can't wait", y.leastCost(200), 500 + 1000);
    }

    private static void leastByTheDepth() {
        Check.part("whichever states down to the depth");
        int[] due = {4000, 20 + 39 * 40 + 100, 150 + 370 + 300};
        for (int depth = 0; depth <= 2; depth++) {
            SleepPlanner x = new SleepPlanner();
            x.setState(3, 0, 0, 0);
            x.vote(5, depth);
            Check.same("leastCost() with the depth " + depth, x.leastCost(40), due[depth]);
            x.vote(5, depth + 1);
            Check.isTrue("leastCost() with a greater one", x.leastCost(40) < due[depth]);
        }
        SleepPlanner y = new SleepPlanner();
        y.setState(3, 1, 0, 7);
        Check.same("leastCost() with the depth 3", y.leastCost(40), 33 + 700);
        y.setState(1, 0, 0, 0);
        Check.same("leastCost() with a lesser state that is better", y.leastCost(40), 0);
        y.setState(1, 100, 1, 0);
        y.setState(2, 100, 1, 0);
        y.setState(3, 100, 1, 0);
        Check.same("leastCost() with the state 0 as the best", y.leastCost(40), 4000);
    }

    private static void leastFitsTheLatency() {
        Check.part("an idle time in a state, if its latency is n or less");
        // If it could be chosen for less, its power would be saved for the ticks that are lacking.
        SleepPlanner x = new SleepPlanner();
        for (int state = 1; state <= 3; state++) {
            x.setState(state, 1000, 0, 10);
        }
        for (int ticks : new int[] {1, 9, 10, 11}) {
            Check.same("leastCost() of " + ticks, x.leastCost(ticks), 100 * ticks);
        }
        SleepPlanner y = new SleepPlanner();
        for (int state = 1; state <= 3; state++) {
            y.setState(state, 0, 0, 10);
        }
        int[][] due = {{9, 900}, {10, 1000}, {11, 1000}, {100, 1000}};
        for (int[] row : due) {
            costs("of " + row[0], y, row[0], row[1], row[1]);
        }
    }

    private static void leastWithMoreWakeups() {
        Check.part("however many wakeups");
        SleepPlanner x = new SleepPlanner();
        x.setState(1, 100, 0, 0);
        x.setState(2, 100, 0, 0);
        x.setState(3, 0, 150, 2);
        // One wakeup, at 10, would do, for two idle times in the state 3; but with two, at 1 and at 15, there is one.
        x.schedule(1, 9, 1);
        x.schedule(10, 5, 1);
        wakeups("that would do", x, 16, 1);
        Check.same("plannedCost()", x.plannedCost(16), (150 + 200) + (150 + 200));
        Check.same("leastCost()", x.leastCost(16), 100 + (150 + 200) + 100);
    }

    private static void noEventsAndNoWorks() {
        Check.part("these timers alone, no events");
        SleepPlanner x = with(10, 10, 30, 0);
        SleepPlanner y = withEvents();
        for (int until : new int[] {0, 20, 21, 30, 31, 400}) {
            wakeups("with events", y, until, x.plannedWakeups(until));
            costs("with events", y, until, (int) x.plannedCost(until), (int) x.leastCost(until));
        }
        String before = Probe.tell(y);
        Check.sameOutcome("what is told behind plans", before, Probe.tell(withEvents()));
    }

    private static SleepPlanner withEvents() {
        SleepPlanner y = new SleepPlanner();
        y.schedule(10, 10, 50);
        y.schedule(30, 0, 50);
        for (int i = 0; i < 12; i++) {
            y.addEvent(i * 5, 50);
        }
        y.setHarvest(0, 1000);
        return y;
    }
}
