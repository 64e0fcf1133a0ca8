/** Promise 7: parameters as they are in force. */
public final class ParameterTest {
    public static void main(String[] args) {
        ChamberPacer x = new ChamberPacer();
        for (int k = 0; k < 14; k++) {
            int before = x.parameter(k);
            x.program(k, Check.MOST[k]);
            Check.due("in force before the boundary: " + k, x.parameter(k), before);
        }
        Check.quiet(x, 99);
        Check.due("still at 99", x.parameter(1), 100);
        x.tick(0, 0, 0);
        for (int k = 0; k < 14; k++) {
            Check.due("in force behind the boundary: " + k, x.parameter(k), Check.MOST[k]);
        }
        for (int k = 0; k < 14; k++) {
            x.program(k, Check.LEAST[k]);
        }
        Check.quiet(x, 200);
        for (int k = 0; k < 14; k++) {
            Check.due("in force behind the next: " + k, x.parameter(k), Check.LEAST[k]);
        }
        for (int k : new int[] {-1, 14, 15, Integer.MIN_VALUE, Integer.MAX_VALUE}) {
            Check.due("parameter(" + k + ")", x.parameter(k), ChamberPacer.NONE);
        }
        Check.end();
    }
}
