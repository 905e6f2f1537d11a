/** All that calls can tell of a planner, as a text: planners that are alike tell the same. It takes some 300 calls. */
final class Probe {
    private final StringBuilder text = new StringBuilder();
    private final SleepPlanner x;

    private Probe(SleepPlanner x) {
        this.x = x;
    }

    /** What is seen by calls that change nothing. */
    static String look(SleepPlanner x) {
        Probe probe = new Probe(x);
        probe.look();
        return probe.text.toString();
    }

    /** What is seen, what comes of some ticks, and what the calls answer that change something. */
    static String tell(SleepPlanner x) {
        Probe probe = new Probe(x);
        probe.look();
        probe.put(() -> x.play(1));
        probe.look();
        probe.put(() -> x.play(60));
        probe.look();
        probe.change();
        probe.fill();
        probe.look();
        return probe.text.toString();
    }

    private void put(Check.Call call) {
        text.append(Check.outcome(call)).append(' ');
    }

    private void look() {
        long[] answers = {x.now(), x.state(), x.depth(), x.timers(), x.nextWakeup(), x.spent(), x.sleeps(), x.lateness(),
            x.served(), x.available(), x.bound(), x.shortTicks(), x.ticksIn(0), x.ticksIn(1), x.ticksIn(2), x.ticksIn(3),
            x.breakEven(1), x.breakEven(2), x.breakEven(3)};
        for (long answer : answers) {
            text.append(answer).append(' ');
        }
        for (int clock = 0; clock < 8; clock++) {
            int number = clock;
            put(() -> x.runs(number) ? 1 : 0);
            put(() -> x.frequency(number));
        }
        for (int ahead : new int[] {0, 50, 400}) {
            int until = x.now() + ahead;
            put(() -> x.plannedWakeups(until));
            put(() -> x.fewestWakeups(until));
            put(() -> x.plannedCost(until));
            put(() -> x.leastCost(until));
        }
        text.append('\n');
    }

    private void change() {
        for (int driver = 0; driver < 6; driver++) {
            int number = driver;
            put(() -> x.vote(number, 3));
        }
        for (int state = 1; state <= 3; state++) {
            x.vote(0, state);
            put(() -> x.plannedCost(x.now() + 400));
            put(() -> x.leastCost(x.now() + 400));
        }
        put(() -> x.setRule(1));
        put(() -> x.setAwake(100));
        for (int hour = 0; hour < 24; hour++) {
            int number = hour;
            put(() -> x.setHarvest(number, 0));
        }
    }

    /** How much there is of what can be full, by the answers up to the first one that there is no place for. */
    private void fill() {
        for (int clock = 0; clock < 8; clock++) {
            int number = clock;
            put(() -> x.use(number));
        }
        fillBy(() -> x.addClock(0, 3, 1));
        fillBy(() -> x.schedule(x.now() + 9, 9, 2));
        fillBy(() -> x.addEvent(x.now() + 9, 2));
    }

    private void fillBy(Check.Call call) {
        boolean isFull = false;
        for (int times = 0; times < 13 && !isFull; times++) {
            String outcome = Check.outcome(call);
            text.append(outcome).append(' ');
            isFull = outcome.startsWith("java");
        }
    }
}
