import java.util.ArrayList;
import java.util.HashMap;
import java.util.List;
import java.util.Map;

/**
 * The document once more, as plainly as it can be put and in other ways than the program: break-evens by
 * trying each n, clocks by their children, plans by trying every tick with the set of timers served so far.
 */
final class Reference {
    private static final class Clock {
        int frequency;
        int deepest;
        int uses;
        final List<Clock> children = new ArrayList<>();

        boolean runs() {
            boolean runs = uses > 0;
            for (Clock child : children) {
                runs |= child.runs();
            }
            return runs;
        }
    }

    private static final class Job {
        final int due;
        final int latest;
        final int work;

        Job(int due, int latest, int work) {
            this.due = due;
            this.latest = latest;
            this.work = work;
        }
    }

    private final int[] power = {100, 40, 10, 1};
    private final int[] cost = {0, 20, 150, 600};
    private final int[] latency = {0, 1, 3, 8};
    private final int[] knownBreakEven = {-2, -2, -2, -2};
    private final int[] votes = {3, 3, 3, 3, 3, 3};
    private final List<Clock> clocks = new ArrayList<>();
    private List<Job> timers = new ArrayList<>();
    private List<Job> events = new ArrayList<>();
    private final List<Integer> idleTimes = new ArrayList<>();
    private final int[] harvest = new int[24];
    private final int[] ticksIn = new int[4];
    private int rule = 1;
    private int now;
    private int state;
    private int idleBegan;
    private long spent;
    private long spentAtLastTick;
    private int sleeps;
    private int lateness;
    private int served;
    private int available = 50000;
    private int bound = 100000;
    private int shortTicks;

    Reference() {
        Clock first = new Clock();
        first.frequency = 4800;
        first.deepest = 3;
        clocks.add(first);
    }

    private static void argument(boolean holds) {
        if (!holds) {
            throw new IllegalArgumentException();
        }
    }

    private static void possible(boolean holds) {
        if (!holds) {
            throw new IllegalStateException();
        }
    }

    private static boolean in(long value, long least, long most) {
        return least <= value && value <= most;
    }

    private Clock clock(int number) {
        if (!in(number, 0, clocks.size() - 1)) {
            throw new IndexOutOfBoundsException();
        }
        return clocks.get(number);
    }

    private void wake() {
        if (state != 0) {
            spent += (long) power[0] * latency[state];
            idleTimes.add(now - idleBegan);
            state = 0;
        }
    }

    long setState(int s, int p, int c, int l) {
        argument(in(s, 1, 3) && in(p, 0, 1000) && in(c, 0, 10000) && in(l, 0, 100));
        wake();
        power[s] = p;
        cost[s] = c;
        latency[s] = l;
        knownBreakEven[s] = -2;
        return 0;
    }

    long setAwake(int p) {
        argument(in(p, 0, 1000));
        wake();
        int before = power[0];
        power[0] = p;
        for (int s = 1; s <= 3; s++) {
            knownBreakEven[s] = -2;
        }
        return before;
    }

    long vote(int driver, int s) {
        argument(in(driver, 0, 5) && in(s, 0, 3));
        wake();
        int before = votes[driver];
        votes[driver] = s;
        return before;
    }

    long addClock(int parent, int divider, int deepest) {
        Clock above = clock(parent);
        argument(in(divider, 1, 64) && in(deepest, 0, 3));
        possible(clocks.size() < 8);
        wake();
        Clock added = new Clock();
        added.frequency = above.frequency / divider;
        added.deepest = deepest;
        above.children.add(added);
        clocks.add(added);
        return clocks.size() - 1;
    }

    long use(int number) {
        Clock clock = clock(number);
        possible(clock.uses != 9);
        wake();
        return ++clock.uses;
    }

    long release(int number) {
        Clock clock = clock(number);
        possible(clock.uses != 0);
        wake();
        return --clock.uses;
    }

    long runs(int number) {
        return clock(number).runs() ? 1 : 0;
    }

    long frequency(int number) {
        return clock(number).frequency;
    }

    long depth() {
        int depth = 3;
        for (int vote : votes) {
            depth = Math.min(depth, vote);
        }
        for (int c = 1; c < clocks.size(); c++) {
            depth = clocks.get(c).runs() ? Math.min(depth, clocks.get(c).deepest) : depth;
        }
        return depth;
    }

    private long idleCost(int s, int n) {
        return cost[s] + (long) power[s] * (n - latency[s]) + (long) power[0] * latency[s];
    }

    long breakEven(int s) {
        argument(in(s, 1, 3));
        if (knownBreakEven[s] == -2) {
            knownBreakEven[s] = -1;
            for (int n = 5000; n >= latency[s]; n--) {
                if (idleCost(s, n) <= (long) n * power[0]) {
                    knownBreakEven[s] = n;
                }
            }
        }
        return knownBreakEven[s];
    }

    long schedule(int due, int slack, int work) {
        argument(in(due, now, now + 1000) && in(slack, 0, 500) && in(work, 1, 50));
        possible(timers.size() < 12);
        wake();
        timers.add(new Job(due, due + slack, work));
        return timers.size();
    }

    long addEvent(int tick, int work) {
        argument(in(tick, now, now + 1000) && in(work, 1, 50));
        possible(events.size() < 12);
        events.add(new Job(tick, tick, work));
        return events.size();
    }

    long setRule(int r) {
        argument(in(r, 0, 2));
        wake();
        int before = rule;
        rule = r;
        return before;
    }

    long timers() {
        return timers.size();
    }

    long nextWakeup() {
        return timers.stream().mapToInt(timer -> timer.latest).min().orElse(-1);
    }

    long play(int ticks) {
        argument(in(ticks, 1, 200));
        for (int i = 0; i < ticks; i++) {
            playTick();
        }
        return now;
    }

    private void playTick() {
        int t = now;
        if (state != 0) {
            boolean known = nextWakeup() == t;
            boolean event = events.stream().anyMatch(e -> e.due == t);
            if (event && !known) {
                spent += (long) power[0] * latency[state];
                lateness += latency[state];
            }
            if (event || known) {
                idleTimes.add(t - idleBegan);
                state = 0;
            }
        }
        if (state == 0) {
            events = serve(events, t);
            timers = serve(timers, t);
            int chosen = choose(t);
            if (chosen > 0) {
                spent += cost[chosen];
                sleeps++;
                idleBegan = t;
                state = chosen;
            }
        }
        ticksIn[state]++;
        boolean nearWakeup = nextWakeup() >= 0 && nextWakeup() - t <= latency[state];
        spent += state == 0 || nearWakeup ? power[0] : power[state];
        battery(t);
        now = t + 1;
    }

    private List<Job> serve(List<Job> jobs, int t) {
        List<Job> left = new ArrayList<>();
        for (Job job : jobs) {
            if (job.due <= t) {
                served += job.work;
                spent += (long) job.work * power[0];
            } else {
                left.add(job);
            }
        }
        return left;
    }

    private int choose(int t) {
        long k = timers.isEmpty() ? Long.MAX_VALUE : nextWakeup() - t;
        for (int s = (int) depth(); s >= 1; s--) {
            if (takes(s, k)) {
                return s;
            }
        }
        return 0;
    }

    private boolean takes(int s, long k) {
        if (rule == 0) {
            return latency[s] <= k;
        }
        long breakEven = breakEven(s);
        if (breakEven < 0 || breakEven > k) {
            return false;
        }
        if (rule == 1 || idleTimes.isEmpty()) {
            return true;
        }
        List<Integer> last = idleTimes.subList(Math.max(0, idleTimes.size() - 4), idleTimes.size());
        long sum = 0;
        for (int idleTime : last) {
            sum += idleTime;
        }
        return breakEven <= sum / last.size();
    }

    private void battery(int t) {
        long well = available + harvest[t / 60 % 24] - (spent - spentAtLastTick);
        spentAtLastTick = spent;
        if (well < 0) {
            shortTicks++;
            well = 0;
        }
        available = (int) Math.min(well, 50000);
        int x = (int) Math.floor((bound / 2 - available) / 16.0);
        while (x > 0 && bound > 0 && available < 50000) {
            x--;
            bound--;
            available++;
        }
        while (x < 0 && available > 0 && bound < 100000) {
            x++;
            available--;
            bound++;
        }
    }

    long now() {
        return now;
    }

    long state() {
        return state;
    }

    long spent() {
        return spent;
    }

    long ticksIn(int s) {
        argument(in(s, 0, 3));
        return ticksIn[s];
    }

    long sleeps() {
        return sleeps;
    }

    long lateness() {
        return lateness;
    }

    long served() {
        return served;
    }

    long setHarvest(int hour, int energy) {
        argument(in(hour, 0, 23) && in(energy, 0, 1000));
        int before = harvest[hour];
        harvest[hour] = energy;
        return before;
    }

    long available() {
        return available;
    }

    long bound() {
        return bound;
    }

    long shortTicks() {
        return shortTicks;
    }

    private List<Job> meant(int until) {
        argument(in(until, now, now + 400));
        List<Job> meant = new ArrayList<>();
        for (Job timer : timers) {
            if (timer.latest < until) {
                meant.add(timer);
            }
        }
        return meant;
    }

    private List<Integer> planned(int until) {
        List<Job> left = meant(until);
        List<Integer> wakeups = new ArrayList<>();
        while (!left.isEmpty()) {
            int wakeup = left.stream().mapToInt(timer -> timer.latest).min().getAsInt();
            left.removeIf(timer -> timer.due <= wakeup);
            wakeups.add(wakeup);
        }
        return wakeups;
    }

    long plannedWakeups(int until) {
        return planned(until).size();
    }

    /** Tick by tick, to wake or not to wake: the least number of wakeups for each set of timers served. */
    long fewestWakeups(int until) {
        List<Job> meant = meant(until);
        Map<Integer, Long> fewest = new HashMap<>();
        fewest.put(0, 0L);
        for (int t = now; t < until; t++) {
            Map<Integer, Long> next = new HashMap<>();
            int servable = servable(meant, t);
            int must = endingBelow(meant, t + 1);
            for (Map.Entry<Integer, Long> entry : fewest.entrySet()) {
                offer(next, entry.getKey(), must, entry.getValue());
                offer(next, entry.getKey() | servable, must, entry.getValue() + 1);
            }
            fewest = next;
        }
        return fewest.values().stream().min(Long::compare).get();
    }

    private static void offer(Map<Integer, Long> best, int served, int must, long value) {
        if ((served & must) == must) {
            best.merge(served, value, Math::min);
        }
    }

    private static int servable(List<Job> meant, int t) {
        int set = 0;
        for (int i = 0; i < meant.size(); i++) {
            set |= meant.get(i).due <= t && t <= meant.get(i).latest ? 1 << i : 0;
        }
        return set;
    }

    private static int endingBelow(List<Job> meant, int t) {
        int set = 0;
        for (int i = 0; i < meant.size(); i++) {
            set |= meant.get(i).latest < t ? 1 << i : 0;
        }
        return set;
    }

    long plannedCost(int until) {
        List<Integer> ends = planned(until);
        ends.add(until);
        long sum = 0;
        int from = now;
        for (int end : ends) {
            int n = end - from;
            int chosen = 0;
            for (int s = (int) depth(); s >= 1 && chosen == 0; s--) {
                chosen = breakEven(s) >= 0 && breakEven(s) <= n ? s : 0;
            }
            sum += chosen == 0 ? (long) n * power[0] : idleCost(chosen, n);
            from = end;
        }
        return sum;
    }

    /** For each tick of a last wakeup, the least cost for each set of timers served; every later tick is tried. */
    long leastCost(int until) {
        List<Job> meant = meant(until);
        int span = until - now;
        long[] idle = new long[span + 1];
        for (int n = 0; n <= span; n++) {
            idle[n] = (long) n * power[0];
            for (int s = 1; s <= depth(); s++) {
                idle[n] = latency[s] <= n ? Math.min(idle[n], idleCost(s, n)) : idle[n];
            }
        }
        List<Map<Integer, Long>> least = new ArrayList<>();
        for (int i = 0; i <= span; i++) {
            least.add(new HashMap<>());
        }
        least.get(0).put(servable(meant, now), 0L);
        for (int i = 0; i < span; i++) {
            for (Map.Entry<Integer, Long> entry : least.get(i).entrySet()) {
                for (int j = i + 1; j <= span; j++) {
                    int must = endingBelow(meant, now + j);
                    if ((entry.getKey() & must) != must) {
                        break;
                    }
                    int servedThen = entry.getKey() | servable(meant, now + j);
                    least.get(j).merge(servedThen, entry.getValue() + idle[j - i], Math::min);
                }
            }
        }
        return least.get(span).values().stream().min(Long::compare).get();
    }
}
