/** Planners as they are met by a call: each make() makes a new one that is like the last. */
enum Situation {
    /** Nothing was called. */
    NEW {
        @Override
        SleepPlanner make() {
            return new SleepPlanner();
        }
    },

    /** Asleep in the state 3 with two timers, an event, a clock that runs and an idle time behind it. */
    ASLEEP {
        @Override
        SleepPlanner make() {
            SleepPlanner x = new SleepPlanner();
            x.play(20);
            x.addClock(0, 2, 3);
            x.use(1);
            x.setRule(2);
            x.setHarvest(0, 7);
            x.schedule(60, 5, 2);
            x.schedule(80, 0, 3);
            x.addEvent(40, 4);
            x.play(10);
            return x;
        }
    },

    /** Asleep in the state 3 with two ticks left to a wakeup: the power of state 0 is spent already. */
    NEARLY_AWAKE {
        @Override
        SleepPlanner make() {
            SleepPlanner x = new SleepPlanner();
            x.schedule(20, 0, 1);
            x.play(18);
            return x;
        }
    },

    /** Awake, as a driver lets it not sleep. */
    KEPT_AWAKE {
        @Override
        SleepPlanner make() {
            SleepPlanner x = new SleepPlanner();
            x.vote(4, 0);
            x.setAwake(90);
            x.schedule(30, 3, 1);
            x.play(5);
            return x;
        }
    },

    /** Asleep with 8 clocks, the clock 5 used 9 times, with 12 timers and with 12 events to come. */
    FULL {
        @Override
        SleepPlanner make() {
            SleepPlanner x = new SleepPlanner();
            for (int number = 1; number <= 7; number++) {
                x.addClock(number / 2, 2, 3);
            }
            for (int times = 1; times <= 9; times++) {
                x.use(5);
            }
            for (int i = 0; i < 12; i++) {
                x.schedule(100 + i, 10, 1 + i);
                x.addEvent(50 + i, 2);
            }
            x.play(3);
            return x;
        }
    };

    abstract SleepPlanner make();
}
