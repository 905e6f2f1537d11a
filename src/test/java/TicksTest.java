/** The wakeups, the governor and the playing of a tick in "Terms": each sentence that names a boundary case. */
public final class TicksTest {
    private TicksTest() {
    }

    public static void main(String[] args) {
        wakeups();
        governor();
        playing();
        Check.end("TicksTest");
    }

    // ---- wakeups

    private static void wakeups() {
        servedFromDueOn();
        servedAtLatest();
        servedWhenWokenBetween();
        leastLatestTick();
        noTimers();
        eventsAreNotKnown();
    }

    private static void servedFromDueOn() {
        Check.part("a timer is served from its due tick on");
        SleepPlanner x = new SleepPlanner();
        x.vote(0, 0);
        x.schedule(5, 100, 3);
        x.play(5);
        Check.same("served() behind the tick 4", x.served(), 0);
        Check.same("timers()", x.timers(), 1);
        x.play(1);
        Check.same("served() behind the tick 5", x.served(), 3);
        Check.same("timers()", x.timers(), 0);
    }

    private static void servedAtLatest() {
        Check.part("a timer is served up to its latest tick");
        int[] slacks = {0, 1, 500};
        for (int slack : slacks) {
            SleepPlanner x = new SleepPlanner();
            x.schedule(50, slack, 3);
            for (int left = 50 + slack; left > 0; left -= Math.min(left, 200)) {
                x.play(Math.min(left, 200));
            }
            Check.same("served() ahead of the latest tick, slack " + slack, x.served(), 0);
            x.play(1);
            Check.same("served() at the latest tick, slack " + slack, x.served(), 3);
            Check.same("lateness()", x.lateness(), 0);
        }
    }

    private static void servedWhenWokenBetween() {
        Check.part("a timer is served when the device is awake between");
        int[][] wokenAt = {{49, 0}, {50, 3}, {51, 3}, {69, 3}};
        for (int[] row : wokenAt) {
            SleepPlanner x = new SleepPlanner();
            x.schedule(50, 20, 3);
            x.addEvent(row[0], 1);
            x.play(row[0] + 1);
            Check.same("served() woken at " + row[0], x.served(), row[1] + 1);
        }
    }

    private static void leastLatestTick() {
        Check.part("the least latest tick of all timers");
        SleepPlanner x = new SleepPlanner();
        Check.same("nextWakeup() of none", x.nextWakeup(), -1);
        x.schedule(10, 90, 1);
        Check.same("nextWakeup() of one", x.nextWakeup(), 100);
        x.schedule(50, 49, 1);
        Check.same("nextWakeup() of two, one earlier by 1", x.nextWakeup(), 99);
        x.schedule(20, 80, 1);
        Check.same("nextWakeup() of three", x.nextWakeup(), 99);
        for (int timers = 4; timers <= 11; timers++) {
            x.schedule(200, 0, 1);
        }
        x.schedule(98, 0, 1);
        Check.same("nextWakeup() of twelve, the last one being the first", x.nextWakeup(), 98);
        x.play(99);
        Check.same("timers() that are left at 99", x.timers(), 8);
        Check.same("nextWakeup() of those", x.nextWakeup(), 200);
        Check.same("served()", x.served(), 4);
    }

    private static void noTimers() {
        Check.part("no next known wakeup, if there are no timers");
        SleepPlanner x = new SleepPlanner();
        x.setState(3, 1, 600, 100);
        x.play(200);
        x.play(200);
        Check.same("spent() without last ticks", x.spent(), 600 + 400);
        Check.same("state() for good", x.state(), 3);
        Check.same("sleeps()", x.sleeps(), 1);
        x.schedule(400, 0, 1);
        Check.same("nextWakeup() now", x.nextWakeup(), 400);
        x.play(1);
        Check.same("nextWakeup() when the last one is served", x.nextWakeup(), -1);
    }

    private static void eventsAreNotKnown() {
        Check.part("an event is not known ahead");
        SleepPlanner x = new SleepPlanner();
        x.addEvent(1, 1);
        Check.same("nextWakeup()", x.nextWakeup(), -1);
        Check.same("timers()", x.timers(), 0);
        x.play(1);
        Check.same("state() a tick ahead of an event", x.state(), 3);
        Check.same("spent() a tick ahead of an event", x.spent(), 601);
        Check.same("plannedWakeups()", x.plannedWakeups(100), 0);
    }

    // ---- the governor

    private static void governor() {
        fromTheDepthDown();
        rule0();
        rule1();
        rule2AndTheWakeup();
        meanOfFewerThanFour();
        meanOfTheLastFour();
        meanRoundedDown();
        noIdleTimes();
        idleTimesAreAsLongAs();
        ruleAtFirst();
    }

    /** The state that is chosen at the tick 0, with the next known wakeup at k. */
    private static int chosen(int rule, int depth, int k) {
        SleepPlanner x = new SleepPlanner();
        x.vote(3, depth);
        x.setRule(rule);
        x.schedule(k, 0, 1);
        x.play(1);
        return x.state();
    }

    private static void fromTheDepthDown() {
        Check.part("the states from the depth down to 1, or 0");
        for (int rule = 0; rule <= 2; rule++) {
            for (int depth = 0; depth <= 3; depth++) {
                Check.same("state() by rule " + rule, chosen(rule, depth, 500), depth);
            }
        }
        Check.same("state() when the deepest does not fit", chosen(1, 3, 14), 2);
        Check.same("state() when the two deepest do not fit", chosen(1, 3, 4), 1);
        Check.same("state() when none fits", chosen(1, 3, 1), 0);
        SleepPlanner x = new SleepPlanner();
        x.setState(3, 99, 0, 0);
        x.play(1);
        Check.same("state() when a lesser one is cheaper", x.state(), 3);
        SleepPlanner y = new SleepPlanner();
        y.setState(2, 100, 10000, 100);
        y.vote(0, 2);
        y.play(1);
        Check.same("state() when one between is not taken", y.state(), 1);
    }

    private static void rule0() {
        Check.part("rule 0: a latency of k or less");
        int[][] due = {{1, 1}, {2, 1}, {3, 2}, {7, 2}, {8, 3}, {9, 3}};
        for (int[] row : due) {
            Check.same("state() with k " + row[0], chosen(0, 3, row[0]), row[1]);
        }
        SleepPlanner x = new SleepPlanner();
        x.setRule(0);
        x.setState(1, 0, 0, 2);
        x.schedule(1, 0, 1);
        x.play(1);
        Check.same("state() with k 1 and no such latency", x.state(), 0);
        x.setState(3, 1000, 10000, 100);
        x.schedule(102, 0, 1);
        x.play(1);
        Check.same("state() with k 101 and the latency 100", x.state(), 3);
        x.setRule(0);
        x.play(1);
        Check.same("state() with k 100 and the latency 100", x.state(), 3);
        x.setRule(0);
        x.play(1);
        Check.same("state() with k 99 and the latency 100", x.state(), 2);
    }

    private static void rule1() {
        Check.part("rule 1: a break-even of k or less");
        int[][] due = {{1, 0}, {2, 1}, {4, 1}, {5, 2}, {14, 2}, {15, 3}, {16, 3}};
        for (int[] row : due) {
            Check.same("state() with k " + row[0], chosen(1, 3, row[0]), row[1]);
        }
        SleepPlanner x = new SleepPlanner();
        x.setState(3, 98, 3000, 0);
        x.schedule(1000, 500, 1);
        x.play(1);
        Check.same("state() with k 1500 and the break-even 1500", x.state(), 3);
        x.setRule(1);
        x.play(1);
        Check.same("state() with k 1499 and the break-even 1500", x.state(), 2);
    }

    private static void rule2AndTheWakeup() {
        Check.part("rule 2: a break-even of k or less");
        int[][] due = {{1, 0}, {2, 1}, {4, 1}, {5, 2}, {14, 2}, {15, 3}};
        for (int[] row : due) {
            Check.same("state() with no idle time and k " + row[0], chosen(2, 3, row[0]), row[1]);
            SleepPlanner x = behind(500);
            x.schedule(x.now() + row[0], 0, 1);
            x.play(1);
            Check.same("state() with the mean 500 and k " + row[0], x.state(), row[1]);
        }
    }

    /** A planner with idle times of these lengths behind it, without timers, by rule 2. */
    private static SleepPlanner behind(int... lengths) {
        SleepPlanner x = new SleepPlanner();
        x.setRule(0);
        for (int length : lengths) {
            x.setRule(0);
            for (int left = length; left > 0; left -= Math.min(left, 200)) {
                x.play(Math.min(left, 200));
            }
        }
        x.setRule(2);
        return x;
    }

    /** The state that is chosen without a known wakeup; the break-evens are 2, 5 and 15. */
    private static int chosenBehind(int... lengths) {
        SleepPlanner x = behind(lengths);
        x.play(1);
        return x.state();
    }

    private static void meanOfFewerThanFour() {
        Check.part("rule 2: of as many idle times as there were");
        Check.same("1 idle time, 1", chosenBehind(1), 0);
        Check.same("1 idle time, 2", chosenBehind(2), 1);
        Check.same("1 idle time, 4", chosenBehind(4), 1);
        Check.same("1 idle time, 5", chosenBehind(5), 2);
        Check.same("1 idle time, 14", chosenBehind(14), 2);
        Check.same("1 idle time, 15", chosenBehind(15), 3);
        Check.same("2 idle times, 14", chosenBehind(10, 18), 2);
        Check.same("2 idle times, 15", chosenBehind(18, 12), 3);
        Check.same("3 idle times, 14", chosenBehind(1, 40, 1), 2);
        Check.same("3 idle times, 15", chosenBehind(1, 2, 42), 3);
    }

    private static void meanOfTheLastFour() {
        Check.part("rule 2: the last 4 idle times");
        Check.same("4 idle times, 14", chosenBehind(1, 2, 3, 50), 2);
        Check.same("4 idle times, 15", chosenBehind(51, 1, 1, 7), 3);
        Check.same("5 idle times, the first one of no weight, 14", chosenBehind(900, 56, 1, 1, 1), 2);
        Check.same("5 idle times, the second one of weight, 15", chosenBehind(1, 57, 1, 1, 1), 3);
        Check.same("9 idle times, 14", chosenBehind(300, 300, 300, 300, 300, 1, 1, 1, 53), 2);
        Check.same("9 idle times, 15", chosenBehind(1, 1, 1, 1, 1, 15, 15, 15, 15), 3);
    }

    private static void meanRoundedDown() {
        Check.part("rule 2: the mean is rounded down");
        Check.same("29 by 2", chosenBehind(14, 15), 2);
        Check.same("30 by 2", chosenBehind(15, 15), 3);
        Check.same("44 by 3", chosenBehind(15, 15, 14), 2);
        Check.same("45 by 3", chosenBehind(15, 15, 15), 3);
        Check.same("59 by 4", chosenBehind(15, 14, 15, 15), 2);
        Check.same("60 by 4", chosenBehind(15, 14, 16, 15), 3);
        Check.same("7 by 4", chosenBehind(2, 2, 2, 1), 0);
        Check.same("8 by 4", chosenBehind(2, 2, 2, 2), 1);
    }

    private static void noIdleTimes() {
        Check.part("rule 2: with no idle times, as by rule 1");
        Check.same("no idle time", chosenBehind(), 3);
        SleepPlanner x = new SleepPlanner();
        x.setRule(2);
        x.vote(0, 0);
        x.play(1);
        x.vote(0, 3);
        x.play(1);
        Check.same("state() behind ticks awake, which are no idle time", x.state(), 3);
        SleepPlanner y = new SleepPlanner();
        y.setRule(2);
        y.setState(3, 100, 1, 0);
        y.play(1);
        Check.same("state() without a break-even", y.state(), 2);
    }

    private static void idleTimesAreAsLongAs() {
        Check.part("an idle time is as long as the tick it ends at is behind the one it began at");
        for (int length = 14; length <= 15; length++) {
            int due = length == 14 ? 2 : 3;
            SleepPlanner x = new SleepPlanner();
            x.setRule(2);
            x.addEvent(length, 1);
            x.play(length + 1);
            Check.same("state() behind an event at " + length, x.state(), due);
            SleepPlanner y = new SleepPlanner();
            y.setRule(2);
            y.schedule(length, 0, 1);
            y.play(length + 1);
            Check.same("state() behind a known wakeup at " + length, y.state(), due);
            SleepPlanner z = new SleepPlanner();
            z.setRule(2);
            z.play(length);
            z.setAwake(100);
            z.play(1);
            Check.same("state() behind a call at " + length, z.state(), due);
        }
        idleTimesBeginAnew();
    }

    /** Awake from 0 to 3, asleep from 4 on: at 18 it is 14 ticks long, at 19 it is 15. */
    private static void idleTimesBeginAnew() {
        for (int end = 18; end <= 19; end++) {
            SleepPlanner x = new SleepPlanner();
            x.setRule(2);
            x.vote(0, 0);
            x.play(4);
            x.vote(0, 3);
            x.addEvent(end, 1);
            x.play(end + 1 - 4);
            Check.same("state() behind an idle time from 4 to " + end, x.state(), end == 18 ? 2 : 3);
        }
    }

    private static void ruleAtFirst() {
        Check.part("the rule is 1 at first");
        Check.same("setRule(1)", new SleepPlanner().setRule(1), 1);
        SleepPlanner x = new SleepPlanner();
        x.schedule(14, 0, 1);
        x.play(1);
        Check.same("state() at first with k 14", x.state(), 2);
        SleepPlanner y = new SleepPlanner();
        y.play(1);
        y.vote(0, 3);
        y.play(1);
        Check.same("state() at first behind an idle time of 1", y.state(), 3);
    }

    // ---- playing a tick

    private static void playing() {
        wakesAtTheKnownWakeup();
        wakesAtAnEvent();
        eventAtTheKnownWakeup();
        eventWhenAwake();
        eventsAtOneTick();
        allThatIsDue();
        choosesBehindServing();
        lastTicks();
        lastTicksOfOtherLatencies();
        ticksInAState();
    }

    private static void wakesAtTheKnownWakeup() {
        Check.part("it wakes if t is the next known wakeup");
        SleepPlanner x = new SleepPlanner();
        x.schedule(10, 10, 1);
        x.play(20);
        Check.same("state() behind the tick 19", x.state(), 3);
        Check.same("sleeps()", x.sleeps(), 1);
        Check.same("spent()", x.spent(), 600 + 12 + 800);
        x.play(1);
        Check.same("served() at the tick 20", x.served(), 1);
        Check.same("sleeps()", x.sleeps(), 2);
        Check.same("spent(), with nothing for the latency", x.spent(), 1412 + 100 + 601);
        Check.same("lateness()", x.lateness(), 0);
    }

    private static void wakesAtAnEvent() {
        Check.part("it wakes if there is an event at t");
        int[] latencies = {0, 1, 100};
        for (int latency : latencies) {
            SleepPlanner x = new SleepPlanner();
            x.setState(3, 1, 0, latency);
            x.addEvent(5, 2);
            x.play(5);
            Check.same("served() a tick ahead", x.served(), 0);
            Check.same("sleeps() a tick ahead", x.sleeps(), 1);
            Check.same("lateness() a tick ahead", x.lateness(), 0);
            x.play(1);
            Check.same("served()", x.served(), 2);
            Check.same("sleeps()", x.sleeps(), 2);
            Check.same("lateness() of the latency " + latency, x.lateness(), latency);
            Check.same("spent() of the latency " + latency, x.spent(), 5 + 100 * latency + 200 + 1);
        }
        eventRightBehind();
        latenciesAreAdded();
    }

    private static void latenciesAreAdded() {
        Check.part("the latency is added to the lateness");
        SleepPlanner x = new SleepPlanner();
        x.addEvent(5, 1);
        x.addEvent(25, 1);
        x.play(26);
        Check.same("lateness() of two events in the state 3", x.lateness(), 16);
        x.vote(0, 1);
        x.addEvent(27, 1);
        x.play(2);
        Check.same("lateness() with one in the state 1", x.lateness(), 17);
    }

    /** The device fell asleep at the tick 0; an event at the very next tick wakes it already. */
    private static void eventRightBehind() {
        SleepPlanner x = new SleepPlanner();
        x.play(1);
        x.addEvent(1, 1);
        Check.same("state() that an event now leaves", x.state(), 3);
        x.play(1);
        Check.same("lateness() of an event right behind", x.lateness(), 8);
        Check.same("spent() of an event right behind", x.spent(), 601 + 800 + 100 + 601);
    }

    private static void eventAtTheKnownWakeup() {
        Check.part("an event, if t is not the next known wakeup");
        int[][] due = {{29, 8}, {30, 0}, {31, 8}};
        for (int[] row : due) {
            SleepPlanner x = new SleepPlanner();
            x.schedule(25, 5, 1);
            x.addEvent(row[0], 1);
            x.play(32);
            Check.same("lateness() of an event at " + row[0], x.lateness(), row[1]);
            Check.same("served()", x.served(), 2);
        }
        SleepPlanner y = new SleepPlanner();
        y.schedule(25, 5, 1);
        y.addEvent(30, 1);
        y.play(31);
        Check.same("spent() with both at once", y.spent(), 600 + 22 + 800 + 200 + 601);
    }

    private static void eventWhenAwake() {
        Check.part("an event when the device is awake");
        SleepPlanner x = new SleepPlanner();
        x.addEvent(0, 1);
        x.play(1);
        Check.same("lateness() at the first tick", x.lateness(), 0);
        Check.same("spent() at the first tick", x.spent(), 100 + 601);
        x.vote(0, 3);
        x.addEvent(1, 1);
        x.play(1);
        Check.same("lateness() when a call has woken it", x.lateness(), 0);
        Check.same("spent() when a call has woken it", x.spent(), 701 + 800 + 100 + 601);
        x.vote(0, 0);
        x.addEvent(5, 1);
        x.play(4);
        Check.same("lateness() when it is kept awake", x.lateness(), 0);
        Check.same("served()", x.served(), 3);
    }

    private static void eventsAtOneTick() {
        Check.part("all events at t");
        SleepPlanner x = new SleepPlanner();
        for (int i = 0; i < 12; i++) {
            x.addEvent(i < 10 ? 5 : 6, 1 + i);
        }
        x.play(6);
        Check.same("served() of ten at 5", x.served(), 55);
        Check.same("lateness() once for all", x.lateness(), 8);
        Check.same("sleeps() once for all", x.sleeps(), 2);
        Check.same("spent(), the latency once for all", x.spent(), 605 + 800 + 5500 + 601);
        Check.same("addEvent() beside the two that are left", x.addEvent(6, 1), 3);
        x.play(1);
        Check.same("served() of three at 6", x.served(), 55 + 11 + 12 + 1);
        Check.same("addEvent() beside none", x.addEvent(90, 1), 1);
        eventsAtTheLastTick();
    }

    /** At the tick ahead of the known wakeup all but one of the 8 ticks of the latency were paid already. */
    private static void eventsAtTheLastTick() {
        SleepPlanner x = new SleepPlanner();
        x.schedule(20, 0, 1);
        x.addEvent(19, 2);
        x.addEvent(19, 3);
        x.play(19);
        Check.same("spent() ahead of the last tick", x.spent(), 600 + 12 + 700);
        x.play(1);
        // With a tick left no state has a break-even; the latency is paid whole, and once.
        Check.same("spent() with the last tick", x.spent(), 1312 + 800 + 500 + 100);
        Check.same("lateness() with the last tick", x.lateness(), 8);
        Check.same("state() behind it", x.state(), 0);
    }

    private static void allThatIsDue() {
        Check.part("all timers whose due tick is t or less");
        SleepPlanner x = new SleepPlanner();
        x.schedule(0, 30, 1);
        x.schedule(29, 50, 2);
        x.schedule(30, 50, 4);
        x.schedule(31, 0, 8);
        x.schedule(31, 500, 16);
        x.play(1);
        Check.same("served() at the tick 0", x.served(), 1);
        x.addEvent(30, 32);
        x.play(29);
        Check.same("served() at the tick 29", x.served(), 1);
        x.play(1);
        Check.same("served() at the tick 30", x.served(), 1 + 2 + 4 + 32);
        Check.same("timers()", x.timers(), 2);
        x.play(1);
        Check.same("served() at the tick 31", x.served(), 63);
        Check.same("timers()", x.timers(), 0);
    }

    private static void choosesBehindServing() {
        Check.part("the timers that are served are gone when the governor chooses");
        SleepPlanner x = new SleepPlanner();
        x.schedule(0, 2, 1);
        x.schedule(20, 0, 1);
        x.play(1);
        Check.same("state() with k 20", x.state(), 3);
        SleepPlanner y = new SleepPlanner();
        y.schedule(1, 2, 1);
        y.play(1);
        Check.same("state() with k 3", y.state(), 1);
        Check.same("spent()", y.spent(), 60);
        y.play(2);
        Check.same("spent() with a last tick", y.spent(), 60 + 40 + 100);
    }

    private static void lastTicks() {
        Check.part("asleep with as many ticks or fewer left as its latency");
        SleepPlanner x = new SleepPlanner();
        x.schedule(20, 0, 1);
        x.play(11);
        Check.same("spent() behind the tick 10", x.spent(), 611);
        x.play(1);
        Check.same("spent() behind the tick 11, with 9 left", x.spent(), 612);
        x.play(1);
        Check.same("spent() behind the tick 12, with 8 left", x.spent(), 712);
        x.play(7);
        Check.same("spent() behind the tick 19, with 1 left", x.spent(), 1412);
        SleepPlanner y = new SleepPlanner();
        y.setRule(0);
        y.schedule(8, 0, 1);
        y.play(8);
        Check.same("spent() when it has only last ticks", y.spent(), 600 + 800);
        Check.same("ticksIn(3)", y.ticksIn(3), 8);
    }

    private static void lastTicksOfOtherLatencies() {
        Check.part("the last ticks of other latencies");
        int[] latencies = {0, 1, 2, 100};
        for (int latency : latencies) {
            SleepPlanner x = new SleepPlanner();
            x.setRule(0);
            x.setState(3, 3, 5, latency);
            x.schedule(150, 0, 1);
            x.play(150 - latency);
            Check.same("spent() ahead of them, latency " + latency, x.spent(), 5 + 3 * (150 - latency));
            if (latency > 0) {
                x.play(1);
                Check.same("spent() at the first of them, latency " + latency, x.spent(),
                        5 + 3 * (150 - latency) + 100);
            }
        }
    }

    private static void ticksInAState() {
        Check.part("the ticks in a state, also with the power of state 0");
        SleepPlanner x = new SleepPlanner();
        x.schedule(20, 0, 1);
        x.play(20);
        Check.same("ticksIn(3) with the last ticks", x.ticksIn(3), 20);
        Check.same("ticksIn(0)", x.ticksIn(0), 0);
        x.vote(0, 0);
        x.play(1);
        Check.same("ticksIn(3)", x.ticksIn(3), 20);
        Check.same("ticksIn(0)", x.ticksIn(0), 1);
        SleepPlanner y = new SleepPlanner();
        y.play(1);
        y.vote(0, 2);
        Check.same("ticksIn(0) woken by a call", y.ticksIn(0), 0);
        y.play(1);
        Check.same("ticksIn(2) asleep again in the same tick", y.ticksIn(2), 1);
        Check.same("ticksIn(0)", y.ticksIn(0), 0);
    }
}
