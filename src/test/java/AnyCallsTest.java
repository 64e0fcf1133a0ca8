import java.util.Random;

/** Rule 7 of LANGUAGE.md: no call throws by itself, for any arguments in any state. */
public final class AnyCallsTest {
    private static final int[] EXTREMES = {Integer.MIN_VALUE, Integer.MAX_VALUE, -1, 0, 1, 126, 255};

    public static void main(String[] args) {
        Random random = new Random(20261115);
        for (int object = 0; object < 1800; object++) {
            ChamberPacer x = new ChamberPacer();
            // A turn is six calls at most (a frame): 85 turns stay below the 512 calls of an object.
            for (int turn = 0; turn < 85; turn++) {
                String fault = faultOf(x, random);
                Check.due("object " + object + ", turn " + turn + " " + fault, fault.isEmpty(), true);
            }
        }
        Check.end();
    }

    private static String faultOf(ChamberPacer x, Random random) {
        try {
            anyCall(x, random);
            return "";
        } catch (RuntimeException e) {
            return e.toString();
        }
    }

    private static void anyCall(ChamberPacer x, Random random) {
        switch (random.nextInt(13)) {
            case 0: x.tick(any(random), any(random), any(random)); break;
            case 1: x.run(any(random), any(random), any(random), any(random)); break;
            case 2: x.run(1 + random.nextInt(60), any(random), any(random), any(random)); break;
            case 3: programOrNot(x, any(random), any(random)); break;
            case 4: x.receive(any(random)); break;
            case 5: Check.frame(x, 1, random.nextInt(16), random.nextInt(256)); break;
            case 6: x.battery(random.nextInt(400) == 0 ? any(random) : 300); break;
            case 7: x.parameter(any(random)); break;
            case 8: x.waiting(any(random)); break;
            case 9: x.since(any(random)); break;
            case 10: x.value(any(random)); break;
            case 11: x.marker(any(random), any(random)); break;
            default: x.histogram(any(random)); break;
        }
    }

    private static void programOrNot(ChamberPacer x, int parameter, int value) {
        try {
            x.program(parameter, value);
        } catch (IllegalArgumentException | IllegalStateException e) {
            return;
        }
    }

    private static int any(Random random) {
        switch (random.nextInt(4)) {
            case 0: return EXTREMES[random.nextInt(EXTREMES.length)];
            case 1: return random.nextInt();
            case 2: return random.nextInt(2001) - 1000;
            default: return random.nextInt(16);
        }
    }
}
