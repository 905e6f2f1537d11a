/** Which calls wake the device and what that costs, also if nothing is different by them, and which do not. */
public final class WakingTest {
    private static final String[] NAMES = {"setState", "setAwake", "vote", "addClock", "use", "release", "schedule", "setRule"};

    /** Each with the values that are there already, where that can be. */
    private static final Check.Step[] CALLS = {
        x -> {
            x.setState(3, 1, 600, 8);
            return 0;
        },
        x -> x.setAwake(100), x -> x.vote(0, 3), x -> x.addClock(0, 1, 3), x -> x.use(1), x -> x.release(1),
        x -> x.schedule(x.now() + 900, 0, 1), x -> x.setRule(1)
    };

    private WakingTest() {
    }

    public static void main(String[] args) {
        for (int i = 0; i < CALLS.length; i++) {
            Check.part(NAMES[i] + "() wakes the device");
            wakesTheAsleep(CALLS[i]);
            wakesInTheLastTicks(CALLS[i]);
            endsTheIdleTime(CALLS[i]);
            leavesTheAwake(CALLS[i]);
        }
        nothingDifferentByThem();
        oneOfTwoCallsPays();
        paidAsItWasBefore();
        latencyZeroWakesToo();
        otherCallsDoNotWake();
        refusedCallsDoNotWake();
        Check.end("WakingTest");
    }

    /** With a clock 1 that is used once and lets the device sleep as deep as it likes. */
    private static SleepPlanner planner() {
        SleepPlanner x = new SleepPlanner();
        x.addClock(0, 1, 3);
        x.use(1);
        return x;
    }

    private static void wakesTheAsleep(Check.Step call) {
        SleepPlanner x = planner();
        x.play(1);
        call.on(x);
        Check.same("state()", x.state(), 0);
        Check.same("spent()", x.spent(), 601 + 800);
        Check.same("lateness()", x.lateness(), 0);
        Check.same("sleeps()", x.sleeps(), 1);
        Check.same("now()", x.now(), 1);
        Check.same("ticksIn(0)", x.ticksIn(0), 0);
        Check.same("available() ahead of the next tick", x.available(), 50000 - 601 + 37);
        x.play(1);
        Check.same("state() a tick later", x.state(), 3);
        Check.same("spent() a tick later", x.spent(), 1401 + 601);
        Check.same("sleeps() a tick later", x.sleeps(), 2);
    }

    private static void wakesInTheLastTicks(Check.Step call) {
        SleepPlanner x = planner();
        x.schedule(20, 0, 1);
        x.play(20);
        Check.same("spent() with all last ticks", x.spent(), 600 + 12 + 800);
        call.on(x);
        Check.same("state() ahead of the known wakeup", x.state(), 0);
        Check.same("spent() ahead of the known wakeup", x.spent(), 1412 + 800);
        x.play(1);
        Check.same("served()", x.served(), 1);
        Check.same("lateness()", x.lateness(), 0);
    }

    /** By rule 2 the state 3 needs a mean of 15. */
    private static void endsTheIdleTime(Check.Step call) {
        for (int length = 14; length <= 15; length++) {
            SleepPlanner x = planner();
            x.setRule(2);
            x.play(length);
            if (call == CALLS[7]) {
                x.setRule(2);
            } else {
                call.on(x);
            }
            x.play(1);
            Check.same("state() behind an idle time of " + length, x.state(), length == 14 ? 2 : 3);
        }
    }

    private static void leavesTheAwake(Check.Step call) {
        SleepPlanner x = planner();
        call.on(x);
        Check.same("spent() of a call ahead of the first tick", x.spent(), 0);
        x.vote(1, 0);
        x.play(3);
        call.on(release(x, call));
        Check.same("state() of one that was awake", x.state(), 0);
        Check.same("spent() of one that was awake", x.spent(), 300);
        x.setRule(2);
        x.vote(1, 3);
        x.play(1);
        Check.same("state() behind no idle time", x.state(), 3);
    }

    /** The clock 1 was used once: for a second release it must be used again. */
    private static SleepPlanner release(SleepPlanner x, Check.Step call) {
        if (call == CALLS[5]) {
            x.use(1);
        }
        return x;
    }

    /** A clock that goes on running, one that ran already, a timer behind the next wakeup, a state that is not used. */
    private static void nothingDifferentByThem() {
        Check.part("also if nothing is different by it");
        Check.Step[] calls = {
            x -> x.release(2), x -> x.use(2), x -> x.use(1), x -> x.schedule(500, 500, 1), x -> x.vote(5, 3),
            x -> {
                x.setState(1, 40, 20, 1);
                return 0;
            }
        };
        for (Check.Step call : calls) {
            SleepPlanner x = planner();
            x.addClock(1, 1, 3);
            x.use(2);
            x.use(2);
            x.schedule(400, 0, 1);
            x.play(1);
            Check.same("state() ahead of it", x.state(), 3);
            call.on(x);
            Check.same("state() behind it", x.state(), 0);
            Check.same("spent() behind it", x.spent(), 601 + 800);
        }
    }

    private static void oneOfTwoCallsPays() {
        Check.part("the second of two calls finds the device awake");
        SleepPlanner x = planner();
        x.play(1);
        for (Check.Step call : CALLS) {
            call.on(x);
        }
        Check.same("spent() by eight calls", x.spent(), 601 + 800);
        Check.same("sleeps()", x.sleeps(), 1);
    }

    private static void paidAsItWasBefore() {
        Check.part("the device is woken first, then the call is done");
        SleepPlanner x = planner();
        x.play(1);
        x.setState(3, 1000, 10000, 100);
        Check.same("spent() by the latency before", x.spent(), 601 + 800);
        SleepPlanner y = planner();
        y.play(1);
        y.setAwake(1000);
        Check.same("spent() by the power before", y.spent(), 601 + 800);
        SleepPlanner z = planner();
        z.vote(0, 2);
        z.play(1);
        z.setState(3, 0, 0, 0);
        Check.same("spent() by the latency of the state that it is in", z.spent(), 160 + 300);
    }

    private static void latencyZeroWakesToo() {
        Check.part("the latency 0");
        SleepPlanner x = planner();
        x.setState(3, 1, 600, 0);
        x.play(1);
        x.setRule(1);
        Check.same("state()", x.state(), 0);
        Check.same("spent()", x.spent(), 601);
        SleepPlanner y = planner();
        y.setAwake(0);
        y.setState(3, 0, 0, 8);
        y.play(1);
        Check.same("state() without any power", y.state(), 3);
        y.setRule(1);
        Check.same("state() woken without any power", y.state(), 0);
        Check.same("spent() without any power", y.spent(), 0);
    }

    private static void otherCallsDoNotWake() {
        Check.part("calls that do not wake");
        SleepPlanner x = planner();
        x.play(1);
        x.addEvent(30, 1);
        x.setHarvest(5, 1000);
        x.setHarvest(5, 0);
        String before = Probe.look(x);
        Check.same("state()", x.state(), 3);
        Check.same("spent()", x.spent(), 601);
        for (int i = 0; i < 2; i++) {
            Check.sameOutcome("calls that look", Probe.look(x), before);
        }
        SleepPlanner y = planner();
        y.play(1);
        y.addEvent(30, 1);
        y.setHarvest(5, 0);
        Check.sameOutcome("what is told behind them", Probe.tell(x), Probe.tell(y));
    }

    private static void refusedCallsDoNotWake() {
        Check.part("calls that are not possible do not wake");
        Check.Step[] refused = {
            x -> {
                x.setState(0, 1, 1, 1);
                return 0;
            },
            x -> x.setAwake(1001), x -> x.vote(6, 3), x -> x.addClock(8, 1, 3), x -> x.addClock(0, 0, 3), x -> x.use(8),
            x -> x.release(8), x -> x.release(0), x -> x.schedule(x.now() - 1, 0, 1), x -> x.setRule(3)
        };
        for (Check.Step call : refused) {
            SleepPlanner x = planner();
            x.play(1);
            Check.isTrue("it throws", Check.outcome(() -> call.on(x)).startsWith("java"));
            Check.same("state()", x.state(), 3);
            Check.same("spent()", x.spent(), 601);
        }
        refusedAsFull();
    }

    private static void refusedAsFull() {
        Check.Step[] refused = {x -> x.addClock(0, 1, 3), x -> x.use(5), x -> x.schedule(x.now(), 0, 1)};
        for (Check.Step call : refused) {
            SleepPlanner x = Situation.FULL.make();
            Check.refusesState("it is full", () -> call.on(x));
            Check.same("state() when it is full", x.state(), 3);
            Check.same("spent() when it is full", x.spent(), 603);
        }
    }
}
