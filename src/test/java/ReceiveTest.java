/** Promise 5: frames of bytes, what they do and what their last byte answers. */
public final class ReceiveTest {
    public static void main(String[] args) {
        sumsThatAreKnown();
        programsAndAsks();
        onlyTheLastByteAnswers();
        bytesBeforeAFrameArePassedOver();
        onlyEightBitsCount();
        aFrameMayHold126();
        theValueHasTwoBytes();
        otherCallsMayComeBetweenBytes();
        aFrameThatIsRefusedIsOver();
        refusesWrongSums();
        refusesWrongFrames();
        refusesWhenTheCellIsEmpty();
        Check.end();
    }

    private static void sumsThatAreKnown() {
        int[][] framesAndAnswers = {
            {1, 11, 0, 1, 253, 0}, {2, 1, 0, 0, 71, 100}, {1, 1, 0, 9, 66, -3},
            {3, 1, 0, 9, 110, -3}, {2, 14, 0, 9, 63, -3}, {1, 1, 0, 50, 227, 0},
            {0, 0, 0, 0, 0, -3}, {0, 0, 0, 1, 7, -3}, {0, 0, 0, 128, 137, -3}, {255, 255, 255, 255, 222, -3}};
        for (int[] row : framesAndAnswers) {
            ChamberPacer x = new ChamberPacer();
            int answer = Check.bytes(x, 126, row[0], row[1], row[2], row[3], row[4]);
            Check.due("the frame with the sum " + row[4], answer, row[5]);
        }
    }

    private static void programsAndAsks() {
        ChamberPacer x = new ChamberPacer();
        for (int k = 0; k < 14; k++) {
            Check.due("asks for " + k, Check.frame(x, 2, k, 0), x.parameter(k));
            Check.due("programs the least of " + k, Check.frame(x, 1, k, Check.LEAST[k]), 0);
            Check.due("the least is pending", x.waiting(k), Check.LEAST[k]);
            Check.due("programs the most of " + k, Check.frame(x, 1, k, Check.MOST[k]), 0);
            Check.due("the most is pending", x.waiting(k), Check.MOST[k]);
            Check.due("asks for what is in force", Check.frame(x, 2, k, 65535), x.parameter(k));
        }
        ChamberPacer y = new ChamberPacer();
        Check.frame(y, 1, 1, 150);
        Check.quiet(y, 100);
        Check.due("in force at the boundary", Check.frame(y, 2, 1, 0), 150);
    }

    private static void onlyTheLastByteAnswers() {
        ChamberPacer x = new ChamberPacer();
        for (int b : new int[] {126, 2, 1, 0, 0}) {
            Check.due("no frame ends with " + b, x.receive(b), ChamberPacer.NONE);
        }
        Check.due("the frame ends", x.receive(71), 100);
        Check.due("nothing more", x.receive(71), ChamberPacer.NONE);
    }

    private static void bytesBeforeAFrameArePassedOver() {
        ChamberPacer x = new ChamberPacer();
        for (int b : new int[] {1, 11, 0, 1, 253, 0, 255, 125, 127}) {
            Check.due("passed over: " + b, x.receive(b), ChamberPacer.NONE);
        }
        Check.due("the frame behind them", Check.frame(x, 1, 11, 1), 0);
        x.receive(2);
        Check.due("a frame behind a frame", Check.frame(x, 2, 1, 0), 100);
    }

    private static void onlyEightBitsCount() {
        ChamberPacer x = new ChamberPacer();
        Check.bytes(x, 126 + 256, 2 - 256, 1 + 0x10000, Integer.MIN_VALUE, 0x7FFFFF00);
        Check.due("the lowest eight bits", x.receive(71 - 512), 100);
        Check.bytes(x, -130, -254, -256 + 9, -1, -1);
        Check.due("of numbers below 0", x.receive(Check.sum(2, 9, 255, 255) - 256), 10);
    }

    private static void aFrameMayHold126() {
        ChamberPacer x = new ChamberPacer();
        Check.due("126 as the value's lower byte", Check.frame(x, 1, 9, 126), 0);
        Check.due("126 is pending", x.waiting(9), 126);
        Check.due("126 as the parameter", Check.frame(x, 2, 126, 0), -3);
        Check.due("126 as the command", Check.frame(x, 126, 1, 0), -3);
        Check.due("126 as the value's higher byte", Check.frame(x, 2, 1, 126 * 256), 100);
        int number = 0;
        while (Check.sum(2, 1, 0, number) != 126) {
            number++;
        }
        Check.due("126 as the sum", Check.frame(x, 2, 1, number), 100);
        Check.due("a sum of 126 begins no frame", Check.frame(x, 2, 0, 0), 7);
    }

    private static void theValueHasTwoBytes() {
        ChamberPacer x = new ChamberPacer();
        Check.due("the higher byte first", Check.bytes(x, 126, 1, 9, 1, 2, Check.sum(1, 9, 1, 2)), 0);
        Check.due("258 is pending", x.waiting(9), 258);
        Check.due("300", Check.frame(x, 1, 10, 300), 0);
        Check.due("300 is pending", x.waiting(10), 300);
        Check.due("the higher byte counts", Check.frame(x, 1, 1, 256 + 100), -3);
        for (int value : new int[] {0, 256, 32767, 32768, 65535}) {
            Check.due("LOWER " + value, Check.frame(x, 1, 1, value), -3);
        }
        Check.due("nothing is pending", x.waiting(1), ChamberPacer.NONE);
    }

    private static void otherCallsMayComeBetweenBytes() {
        ChamberPacer x = new ChamberPacer();
        x.receive(126);
        x.tick(0, 0, 0);
        x.receive(1);
        x.battery(300);
        x.receive(11);
        x.program(2, 60);
        x.receive(0);
        Check.programRefuses(x, 2, 121, IllegalArgumentException.class);
        x.receive(1);
        x.run(60, 0, 0, 0);
        x.run(61, 0, 0, 0);
        Check.due("the frame goes on", x.receive(253), 0);
        ChamberPacer y = new ChamberPacer();
        Check.bytes(y, 126, 1, 11, 0, 1);
        y.battery(0);
        Check.due("the status is looked at when the frame ends", y.receive(253), -4);
    }

    private static void aFrameThatIsRefusedIsOver() {
        ChamberPacer x = new ChamberPacer();
        Check.due("a wrong sum of 126", Check.bytes(x, 126, 1, 11, 0, 1, 126), -2);
        for (int b : new int[] {2, 1, 0, 0, 71}) {
            Check.due("it begins no frame: " + b, x.receive(b), ChamberPacer.NONE);
        }
        Check.due("behind -2", Check.frame(x, 3, 1, 0), -3);
        Check.due("behind -3", Check.frame(x, 2, 1, 0), 100);
        x.battery(0);
        Check.due("behind an answer", Check.frame(x, 1, 1, 100), -4);
        Check.due("behind -4", Check.frame(x, 2, 1, 0), 100);
    }

    private static void refusesWrongSums() {
        ChamberPacer x = new ChamberPacer();
        for (int bit = 0; bit < 8; bit++) {
            Check.bytes(x, 126, 1, 11, 0, 1);
            Check.due("a sum with another bit", x.receive(253 ^ 1 << bit), -2);
        }
        Check.bytes(x, 126, 9, 99, 9, 9);
        Check.due("a wrong sum of a wrong frame", x.receive(Check.sum(9, 99, 9, 9) ^ 1), -2);
        Check.due("nothing is pending", x.waiting(11), ChamberPacer.NONE);
        Check.due("a frame behind a wrong one", Check.frame(x, 1, 11, 1), 0);
    }

    private static void refusesWrongFrames() {
        ChamberPacer x = new ChamberPacer();
        for (int command : new int[] {0, 3, 127, 255}) {
            Check.due("command " + command, Check.frame(x, command, 1, 100), -3);
        }
        for (int number : new int[] {14, 15, 128, 255}) {
            Check.due("programs parameter " + number, Check.frame(x, 1, number, 1), -3);
            Check.due("asks for parameter " + number, Check.frame(x, 2, number, 1), -3);
        }
        for (int k = 0; k < 14; k++) {
            Check.due("above the range of " + k, Check.frame(x, 1, k, Check.MOST[k] + 1), -3);
            if (Check.LEAST[k] > 0) {
                Check.due("below the range of " + k, Check.frame(x, 1, k, Check.LEAST[k] - 1), -3);
            }
            Check.due("nothing is pending of " + k, x.waiting(k), ChamberPacer.NONE);
        }
    }

    private static void refusesWhenTheCellIsEmpty() {
        ChamberPacer x = new ChamberPacer();
        x.battery(0);
        Check.due("programs", Check.frame(x, 1, 2, 60), -4);
        Check.due("nothing is pending", x.waiting(2), ChamberPacer.NONE);
        Check.due("a wrong value all the same", Check.frame(x, 1, 2, 121), -3);
        Check.due("a wrong command all the same", Check.frame(x, 3, 2, 60), -3);
        Check.due("asks", Check.frame(x, 2, 2, 60), 50);
    }
}
