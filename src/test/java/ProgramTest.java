/** Promise 4: programming, what it answers and refuses, and when it comes in force. */
public final class ProgramTest {
    public static void main(String[] args) {
        eachParameterHasItsRange();
        answersPendingOrElseInForce();
        refusesWhatIsNotThere();
        refusesWhenTheCellIsEmpty();
        waitsForTheLeadingChamber();
        theModeInForceTellsWhoLeads();
        Check.end();
    }

    private static void eachParameterHasItsRange() {
        for (int k = 0; k < Check.LEAST.length; k++) {
            ChamberPacer x = new ChamberPacer();
            Check.programRefuses(x, k, Check.LEAST[k] - 1, IllegalArgumentException.class);
            Check.programRefuses(x, k, Check.MOST[k] + 1, IllegalArgumentException.class);
            Check.programRefuses(x, k, Integer.MIN_VALUE, IllegalArgumentException.class);
            Check.programRefuses(x, k, Integer.MAX_VALUE, IllegalArgumentException.class);
            Check.due("nothing is pending of " + k, x.waiting(k), ChamberPacer.NONE);
            Check.due("the value that " + k + " had", x.program(k, Check.LEAST[k]), Check.AT_FIRST[k]);
            Check.due("the pending value that " + k + " had", x.program(k, Check.MOST[k]), Check.LEAST[k]);
            Check.programRefuses(x, k, Check.MOST[k] + 1, IllegalArgumentException.class);
            Check.due("what is pending of " + k, x.waiting(k), Check.MOST[k]);
        }
    }

    private static void answersPendingOrElseInForce() {
        ChamberPacer x = new ChamberPacer();
        Check.due("in force", x.program(1, 40), 100);
        Check.due("pending", x.program(1, 50), 40);
        Check.quiet(x, 100);
        Check.due("put in force", x.program(1, 60), 50);
        Check.due("another parameter", x.program(0, 0), 7);
        Check.due("pending with 0", x.program(0, 2), 0);
    }

    private static void refusesWhatIsNotThere() {
        ChamberPacer x = new ChamberPacer();
        for (int k : new int[] {-1, 14, 15, Integer.MIN_VALUE, Integer.MAX_VALUE}) {
            Check.programRefuses(x, k, 1, IllegalArgumentException.class);
        }
        Check.quiet(x, 100);
        Check.due("nothing was put in force", x.marker(0, 0), 3);
    }

    private static void refusesWhenTheCellIsEmpty() {
        ChamberPacer x = new ChamberPacer();
        x.battery(220);
        Check.due("status 2 is no hindrance", x.program(2, 60), 50);
        x.battery(219);
        Check.programRefuses(x, 2, 60, IllegalStateException.class);
        Check.programRefuses(x, 2, 121, IllegalArgumentException.class);
        Check.programRefuses(x, 14, 0, IllegalArgumentException.class);
        Check.due("nothing is pending", x.waiting(2), ChamberPacer.NONE);
        Check.quiet(x, 100);
        Check.programRefuses(x, 1, 60, IllegalStateException.class);
    }

    private static void waitsForTheLeadingChamber() {
        ChamberPacer x = Check.settled();
        x.program(1, 150);
        Check.spikeA(x, 30);
        Check.due("not at a sense of A", x.parameter(1), 100);
        Check.quiet(x, 19);
        Check.due("not before", x.parameter(1), 100);
        Check.quiet(x, 1);
        Check.due("at a pace of V", x.parameter(1), 150);
        x.program(1, 160);
        Check.spikeV(x, 60);
        Check.due("at a sense of V", x.parameter(1), 160);
        ChamberPacer y = Check.settled();
        y.program(1, 150);
        Check.quiet(y, 85);
        Check.due("not at a pace of A", y.parameter(1), 100);
        ChamberPacer z = Check.settled(0, 4);
        z.program(1, 150);
        Check.spikeA(z, 60);
        Check.due("at a sense of A where A leads", z.parameter(1), 150);
        z.program(1, 70);
        Check.quiet(z, 150);
        Check.due("at a pace of A where A leads", z.parameter(1), 70);
    }

    private static void theModeInForceTellsWhoLeads() {
        ChamberPacer x = Check.settled();
        x.program(0, 4);
        Check.spikeA(x, 40);
        Check.due("a sense of A ends no cycle of mode 7", x.parameter(0), 7);
        Check.quiet(x, 15);
        Check.due("a pace of V does", x.parameter(0), 4);
        x.program(0, 0);
        Check.due("A is sensed", Check.spikeA(x, 30), 1);
        Check.due("a sense of A ends a cycle of mode 4", x.parameter(0), 0);
    }
}
