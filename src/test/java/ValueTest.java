/** Promise 10: L, the pace interval, the level, the counts of A's speed, and the time. */
public final class ValueTest {
    private static final int L = 0;
    private static final int INTERVAL = 1;
    private static final int LEVEL = 2;
    private static final int FAST = 3;
    private static final int SLOW = 4;
    private static final int TIME = 5;

    public static void main(String[] args) {
        theLevelFollowsActivity();
        theLevelHasEnds();
        activityIsTakenAsTheNearest();
        theGoalIsCut();
        theIntervalGoesByFour();
        rateMakesCyclesShorter();
        waitIsForSenses();
        rateIsOnlyForLess();
        countsOfFastAndSlow();
        theTimeGrows();
        otherNumbersAnswerNone();
        Check.end();
    }

    private static void levels(ChamberPacer x, int activity, int... want) {
        for (int level : want) {
            x.tick(0, 0, activity);
            Check.due("the level with activity " + activity, x.value(LEVEL), level);
        }
    }

    private static void theLevelFollowsActivity() {
        ChamberPacer x = new ChamberPacer();
        levels(x, 255, 510, 956, 1346);
        levels(x, 0, 1304, 1264);
        levels(x, 79, 1264);
        levels(x, 78, 1264);
        levels(x, 77, 1263);
        levels(x, 200, 1505);
        ChamberPacer y = new ChamberPacer();
        levels(y, 1, 2, 3, 4, 5, 6, 7, 8, 9, 9);
        levels(y, 0, 9, 9);
    }

    private static void theLevelHasEnds() {
        ChamberPacer x = new ChamberPacer();
        Check.steady(x, 60, 255);
        Check.due("the highest level", x.value(LEVEL), 4073);
        Check.steady(x, 600, 255);
        Check.due("the highest level, later", x.value(LEVEL), 4073);
        Check.quiet(x, 600);
        Check.due("it falls to less than 32", x.value(LEVEL), 31);
        Check.quiet(x, 600);
        Check.due("it stays there", x.value(LEVEL), 31);
    }

    private static void activityIsTakenAsTheNearest() {
        for (int activity : new int[] {255, 256, 1000, Integer.MAX_VALUE}) {
            levels(new ChamberPacer(), activity, 510, 956);
        }
        for (int activity : new int[] {-1, -1000, Integer.MIN_VALUE}) {
            ChamberPacer x = new ChamberPacer();
            levels(x, activity, 0);
            levels(x, 255, 510);
            levels(x, activity, 495);
        }
    }

    /** The level is 510 at the boundary, an eighth of 4080, by the activity of that tick alone. */
    private static void theGoalIsCut() {
        int[][] fastestAndInterval = {{92, 99}, {93, 100}, {84, 98}, {85, 99}, {50, 96}, {108, 101}, {107, 100}, {115, 101}, {100, 100}};
        for (int[] row : fastestAndInterval) {
            ChamberPacer x = new ChamberPacer();
            x.program(12, row[0]);
            Check.quiet(x, 99);
            x.tick(0, 0, 255);
            Check.due("the interval with FASTEST " + row[0], x.value(INTERVAL), row[1]);
        }
    }

    private static void theIntervalGoesByFour() {
        int[][] lowerAndIntervals = {
            {104, 104, 104}, {105, 104, 105}, {109, 104, 108}, {96, 96, 96}, {95, 96, 95}, {91, 96, 92}, {103, 103, 103}};
        for (int[] row : lowerAndIntervals) {
            ChamberPacer x = Check.settled(1, row[0]);
            Check.due("the interval to " + row[0], x.value(INTERVAL), row[1]);
            Check.due("L is LOWER, RATE being 0", x.value(L), row[0]);
            Check.quiet(x, row[0]);
            Check.due("the next interval to " + row[0], x.value(INTERVAL), row[2]);
        }
        ChamberPacer y = new ChamberPacer();
        y.program(12, 150);
        int[] upwards = {104, 108, 112, 116, 120, 124, 128, 132, 136, 140, 144, 148, 149, 149};
        for (int interval : upwards) {
            Check.steady(y, 100, 255);
            Check.due("towards a goal above LOWER", y.value(INTERVAL), interval);
        }
    }

    private static void rateMakesCyclesShorter() {
        ChamberPacer x = new ChamberPacer();
        x.program(11, 1);
        int length = 100;
        for (int interval : new int[] {96, 92, 88, 84, 80, 76, 72, 68, 64, 60, 56, 52, 51, 51}) {
            Check.due("paces of a cycle of " + length, Check.steady(x, length, 255), 2);
            Check.due("a cycle ends", x.since(1), 0);
            Check.due("the interval", x.value(INTERVAL), interval);
            Check.due("L", x.value(L), interval);
            length = interval;
        }
        Check.quiet(x, 51);
        Check.due("the interval rises with rest", x.value(INTERVAL), 55);
    }

    private static void waitIsForSenses() {
        ChamberPacer x = Check.settled(8, 20);
        Check.due("L behind a pace", x.value(L), 100);
        Check.spikeV(x, 60);
        Check.due("L behind a sense", x.value(L), 120);
        Check.due("before L", Check.quiet(x, 119), 1);
        Check.due("V is paced at L", x.tick(0, 0, 0), 8);
        Check.due("L behind the pace", x.value(L), 100);
        ChamberPacer y = Check.settled(0, 4, 8, 60);
        Check.spikeA(y, 60);
        Check.due("L behind a sense of A that leads", y.value(L), 160);
        ChamberPacer z = Check.settled(8, 20);
        Check.spikeA(z, 40);
        Check.due("L behind a sense of A that does not lead", z.value(L), 100);
        ChamberPacer u = Check.settled();
        Check.ask(u, 1, 60, 8, 5);
        Check.spikeV(u, 60);
        Check.due("L by what this boundary put in force", u.value(L), 65);
    }

    private static void rateIsOnlyForLess() {
        ChamberPacer x = Check.settled(8, 20, 11, 1);
        Check.spikeV(x, 60);
        Check.due("the interval is less than LOWER + WAIT", x.value(L), 100);
        ChamberPacer y = Check.settled(1, 30, 11, 1);
        Check.due("the interval", y.value(INTERVAL), 96);
        Check.due("LOWER is less than the interval", y.value(L), 30);
        ChamberPacer z = Check.settled(1, 200, 11, 1);
        Check.due("the interval is less than LOWER", z.value(L), 104);
    }

    private static void countsOfFastAndSlow() {
        ChamberPacer x = Check.settled(0, 5, 1, 200, 2, 120, 13, 60);
        Check.spikeA(x, 44);
        Check.due("the fast count at 59 of QUICK 60", x.value(FAST), 1);
        Check.due("the slow count at 59 of QUICK 60", x.value(SLOW), 0);
        Check.spikeA(x, 20);
        Check.due("the fast count grows", x.value(FAST), 2);
        Check.quiet(x, 59 + 30);
        Check.spikeA(x, 1);
        Check.due("the fast count behind a slow sense", x.value(FAST), 0);
        Check.due("the slow count", x.value(SLOW), 1);
        ChamberPacer y = Check.settled(0, 5, 13, 60);
        Check.spikeA(y, 45);
        Check.due("the fast count at 60 of QUICK 60", y.value(FAST), 0);
        Check.due("the slow count at 60 of QUICK 60", y.value(SLOW), 1);
        ChamberPacer z = Check.settled(0, 6, 13, 60);
        Check.spikeA(z, 40);
        Check.due("no fast count in a mode that does not follow", z.value(FAST), 0);
        Check.spikeA(z, 60);
        Check.due("no slow count in a mode that does not follow", z.value(SLOW), 0);
    }

    private static void theTimeGrows() {
        ChamberPacer x = new ChamberPacer();
        x.tick(0, 0, 0);
        Check.due("the time of a tick", x.value(TIME), 1);
        x.run(60, 0, 0, 0);
        Check.due("the time of a run", x.value(TIME), 61);
        Check.quiet(x, 2000);
        Check.due("a long time", x.value(TIME), 2061);
    }

    private static void otherNumbersAnswerNone() {
        ChamberPacer x = Check.settled();
        for (int which : new int[] {-1, 6, 7, Integer.MIN_VALUE, Integer.MAX_VALUE}) {
            Check.due("value(" + which + ")", x.value(which), ChamberPacer.NONE);
        }
    }
}
