/** The two wells, the hours of the day, and promises 25 to 28: each sentence that names a boundary case. */
public final class BatteryTest {
    private BatteryTest() {
    }

    public static void main(String[] args) {
        fullAtFirst();
        hoursOfTheDay();
        daysBeginAnew();
        takesWhatWasSpent();
        emptyButNotShort();
        fullAvailableWell();
        flowToTheAvailableWell();
        flowToTheBoundWell();
        halfRoundedDown();
        emptyBoundWell();
        wellsStayWithinTheirBounds();
        Check.end("BatteryTest");
    }

    /** Kept awake, with this power of state 0. */
    private static SleepPlanner awake(int power) {
        SleepPlanner x = new SleepPlanner();
        x.vote(0, 0);
        x.setAwake(power);
        return x;
    }

    private static void wells(String when, SleepPlanner x, int available, int bound) {
        Check.same("available() " + when, x.available(), available);
        Check.same("bound() " + when, x.bound(), bound);
    }

    private static void fullAtFirst() {
        Check.part("both wells are full at first");
        SleepPlanner x = awake(0);
        wells("at first", x, 50000, 100000);
        Check.same("shortTicks() at first", x.shortTicks(), 0);
        x.play(200);
        wells("when nothing is spent", x, 50000, 100000);
        x.setHarvest(3, 1000);
        x.play(1);
        wells("when they are full and there is a harvest", x, 50000, 100000);
    }

    /** At the tick 1, with 100000 in both wells together and no power that is used. */
    private static SleepPlanner emptied() {
        SleepPlanner x = awake(1000);
        x.schedule(0, 0, 49);
        x.play(1);
        x.setAwake(0);
        return x;
    }

    private static int inBoth(SleepPlanner x) {
        return x.available() + x.bound();
    }

    private static void playTo(SleepPlanner x, int tick) {
        while (x.now() < tick) {
            x.play(Math.min(200, tick - x.now()));
        }
    }

    private static void hoursOfTheDay() {
        Check.part("60 ticks are an hour");
        SleepPlanner x = emptied();
        x.setHarvest(0, 1);
        x.setHarvest(1, 100);
        playTo(x, 59);
        Check.same("both wells at 59", inBoth(x), 100000 + 58);
        x.play(1);
        Check.same("both wells at 60", inBoth(x), 100000 + 59);
        x.play(1);
        Check.same("both wells at 61", inBoth(x), 100000 + 159);
        playTo(x, 119);
        Check.same("both wells at 119", inBoth(x), 100000 + 59 + 5900);
        x.play(1);
        Check.same("both wells at 120", inBoth(x), 100000 + 59 + 6000);
        x.play(60);
        Check.same("both wells at 180, without a harvest", inBoth(x), 106059);
    }

    private static void daysBeginAnew() {
        Check.part("24 hours are a day, and then they begin anew");
        SleepPlanner x = emptied();
        x.setHarvest(23, 1);
        playTo(x, 1380);
        Check.same("both wells at the end of the hour 22", inBoth(x), 100000);
        x.setHarvest(0, 100);
        x.setHarvest(1, 1000);
        playTo(x, 1439);
        Check.same("both wells at 1439", inBoth(x), 100059);
        x.play(1);
        Check.same("both wells at 1440", inBoth(x), 100060);
        x.play(1);
        Check.same("both wells at 1441, of the hour 0", inBoth(x), 100160);
        x.setHarvest(0, 0);
        x.setHarvest(1, 0);
        playTo(x, 2880 - 60);
        Check.same("both wells at the end of the next hour 22", inBoth(x), 100160);
        playTo(x, 2880);
        Check.same("both wells at the end of the second day", inBoth(x), 100220);
        x.setHarvest(0, 7);
        x.play(1);
        Check.same("both wells in the third day", inBoth(x), 100227);
    }

    private static void takesWhatWasSpent() {
        Check.part("all that was spent since the last tick that it took");
        SleepPlanner x = new SleepPlanner();
        x.play(1);
        wells("with the cost and the first tick", x, 50000 - 601 + 37, 100000 - 37);
        x.vote(0, 0);
        wells("when a call has spent", x, 49436, 99963);
        x.play(1);
        // The 800 of the call, the 100 of the tick; then (49981 - 48536) / 16.
        wells("with the call and the second tick", x, 48536 + 90, 99963 - 90);
        x.addEvent(2, 3);
        x.play(1);
        wells("with works", x, 48626 - 400 + (49936 - 48226) / 16, 99873 - (49936 - 48226) / 16);
    }

    /** Spends 49 works of 1000, and by rule 0 enters the state 1 for a cost, with a power of 1000. */
    private static SleepPlanner spending(int cost, int harvest) {
        SleepPlanner x = new SleepPlanner();
        x.setAwake(1000);
        x.setState(1, 1000, cost, 0);
        x.vote(0, 1);
        x.setRule(0);
        x.setHarvest(0, harvest);
        x.schedule(0, 0, 49);
        x.play(1);
        Check.same("spent()", x.spent(), 50000 + cost);
        return x;
    }

    private static void emptyButNotShort() {
        Check.part("below 0 the device was short, and the well becomes 0");
        int flow = 50000 / 16;
        int[][] due = {{0, 0, 0}, {1, 0, 1}, {1, 1, 0}, {2, 1, 1}, {1000, 1000, 0}, {1001, 1000, 1}, {10000, 0, 1}};
        for (int[] row : due) {
            SleepPlanner x = spending(row[0], row[1]);
            wells("with the cost " + row[0], x, flow, 100000 - flow);
            Check.same("shortTicks() with the cost " + row[0], x.shortTicks(), row[2]);
            x.setAwake(0);
            x.vote(0, 0);
            x.play(1);
            Check.same("shortTicks() at the next tick", x.shortTicks(), row[2]);
        }
        SleepPlanner y = spending(0, 1);
        wells("with 1 left", y, 1 + 49999 / 16, 100000 - 49999 / 16);
        Check.same("shortTicks() with 1 left", y.shortTicks(), 0);
    }

    private static void fullAvailableWell() {
        Check.part("above 50000 the available well becomes 50000");
        int[][] due = {{14, 49999}, {15, 50000}, {16, 50000}, {1000, 50000}};
        for (int[] row : due) {
            // 15 are lacking, and that is too few for a flow.
            SleepPlanner x = awake(15);
            x.play(1);
            wells("with 15 lacking", x, 49985, 100000);
            x.setAwake(0);
            x.setHarvest(0, row[0]);
            x.play(1);
            wells("with the harvest " + row[0], x, row[1], 100000);
        }
        SleepPlanner y = awake(600);
        y.setHarvest(0, 600);
        y.play(30);
        wells("with a harvest of all that is spent", y, 50000, 100000);
        y.setHarvest(0, 599);
        y.play(1);
        wells("with a harvest of 1 less", y, 49999, 100000);
    }

    private static void flowToTheAvailableWell() {
        Check.part("what flows is rounded down");
        int[][] due = {{0, 0}, {1, 0}, {15, 0}, {16, 1}, {17, 1}, {31, 1}, {32, 2}, {47, 2}, {48, 3}, {1000, 62}};
        for (int[] row : due) {
            SleepPlanner x = awake(row[0]);
            x.play(1);
            wells("with " + row[0] + " lacking", x, 50000 - row[0] + row[1], 100000 - row[1]);
        }
        SleepPlanner y = emptied();
        wells("with an empty one", y, 3125, 96875);
    }

    /** A first tick takes from the bound well, 1 for each 16; a second one fills the available well up again. */
    private static SleepPlanner filledAgain(int sixteens) {
        SleepPlanner x = awake(16 * sixteens);
        x.play(1);
        wells("with " + sixteens + " sixteens lacking", x, 50000 - 15 * sixteens, 100000 - sixteens);
        x.setAwake(0);
        x.setHarvest(0, 15 * sixteens);
        x.play(1);
        return x;
    }

    private static void flowToTheBoundWell() {
        Check.part("what flows is rounded down, also below 0");
        // Half of the bound well is below 50000 by half of what it lacks, rounded up.
        int[][] due = {{1, 1}, {2, 1}, {3, 1}, {31, 1}, {32, 1}, {33, 2}, {34, 2}, {62, 2}};
        for (int[] row : due) {
            wells("filled again", filledAgain(row[0]), 50000 - row[1], 100000 - row[0] + row[1]);
        }
    }

    private static void halfRoundedDown() {
        Check.part("half of the bound well, rounded down");
        int[][] due = {{15, 0}, {16, 1}, {17, 1}};
        for (int[] row : due) {
            // The bound well has 99999, of which half is 49999: row[0] below that.
            SleepPlanner x = awake(16);
            x.play(1);
            x.setAwake(row[0] - 14);
            x.play(1);
            wells("with " + row[0] + " less than half", x, 49999 - row[0] + row[1], 99999 - row[1]);
        }
    }

    private static void emptyBoundWell() {
        Check.part("the bound well, emptied");
        SleepPlanner x = awake(1000);
        for (int times = 0; times < 5; times++) {
            x.play(200);
        }
        // Half of 31 is 15, and that is too little for a flow.
        wells("emptied", x, 0, 31);
        int shortTicks = x.shortTicks();
        x.play(1);
        wells("emptied, a tick later", x, 0, 31);
        Check.same("shortTicks() goes on", x.shortTicks(), shortTicks + 1);
        x.setAwake(0);
        x.play(1);
        wells("emptied, without power", x, 0, 31);
        Check.same("shortTicks() with nothing spent from an empty well", x.shortTicks(), shortTicks + 1);
        harvestIntoEmptyWells(x);
    }

    private static void harvestIntoEmptyWells(SleepPlanner x) {
        Check.same("the hour", x.now() / 60, 16);
        x.setHarvest(16, 15);
        x.play(1);
        wells("with a harvest up to the half", x, 15, 31);
        x.setHarvest(16, 1);
        x.play(1);
        // 15 less 16, by 16, is -1.
        wells("with a harvest of 1 above the half", x, 15, 32);
        x.setHarvest(16, 17);
        x.play(1);
        // 16 less 32, by 16, is -1 too.
        wells("with a harvest of 16 above the half", x, 31, 33);
        x.setHarvest(16, 2);
        x.play(1);
        // 16 less 33, by 16, is -2, rounded down.
        wells("with a harvest of 17 above the half", x, 31, 35);
    }

    /** Spending and harvesting by turns of 40 ticks; the flow is told once more without a division below 0. */
    private static void wellsStayWithinTheirBounds() {
        Check.part("no more flows than there is, or than the other well can hold");
        SleepPlanner x = awake(0);
        int available = 50000;
        int bound = 100000;
        int ticksOfFillingBound = 0;
        for (int tick = 0; tick < 160; tick++) {
            boolean isSpending = tick / 40 % 2 == 0;
            if (tick % 40 == 0) {
                turn(x, isSpending ? 1000 : 0, isSpending ? 0 : 1000);
            }
            x.play(1);
            available = isSpending ? Math.max(0, available - 1000) : Math.min(50000, available + 1000);
            int flow = flow(available, bound / 2);
            available += flow;
            bound -= flow;
            ticksOfFillingBound += flow < 0 ? 1 : 0;
            wells("at " + tick, x, available, bound);
            Check.isTrue("within at " + tick, available >= 0 && available <= 50000 && bound >= 0 && bound <= 100000);
        }
        Check.isTrue("it flows to either well", ticksOfFillingBound > 10 && ticksOfFillingBound < 150);
    }

    private static void turn(SleepPlanner x, int power, int harvest) {
        x.setAwake(power);
        for (int hour = 0; hour < 3; hour++) {
            x.setHarvest(hour, harvest);
        }
    }

    private static int flow(int available, int half) {
        return available <= half ? (half - available) / 16 : -((available - half + 15) / 16);
    }
}
