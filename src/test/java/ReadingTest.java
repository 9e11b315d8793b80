import java.util.List;

/** Promises 9, 10, 11 and 17: readings, strikes, minutes, and what is told of a reading. */
public final class ReadingTest {
    private static final Checks CHECKS = new Checks("ReadingTest");

    public static void main(String[] args) {
        reads();
        wrongReads();
        readLimit();
        strikes();
        wrongStrikes();
        passes();
        ofReadings();
        doubles();
        wrongOfReadings();
        CHECKS.end();
    }

    /** Promise 9. */
    private static void reads() {
        Tollweave net = Checks.withGates(3);
        CHECKS.equal("a reading of the minute 0", 0, net.read(2, 9, 0));
        net.pass(10);
        CHECKS.equal("a reading of now", 1, net.read(1, 0, 10));
        CHECKS.equal("a late reading", 2, net.read(0, 0, 3));
        reading(net, 0, 2, 9, 0, 0, 0, 0);
        reading(net, 1, 1, 0, 10, 0, 0, 1);
        reading(net, 2, 0, 0, 3, 0, 0, 0);
        CHECKS.equal("the first minute is that of the late one", 3, net.journey(0, 0, 0));
    }

    private static void reading(Tollweave net, int reading, int... told) {
        for (int what = 0; what < told.length; what++) {
            CHECKS.equal("ofReading(" + reading + ", " + what + ")", told[what],
                    net.ofReading(reading, what));
        }
    }

    private static void wrongReads() {
        Tollweave net = Checks.withGates(2);
        net.pass(5);
        CHECKS.noIndex("gate -1", () -> net.read(-1, 0, 0));
        CHECKS.noIndex("gate 2", () -> net.read(2, 0, 0));
        CHECKS.noIndex("plate -1", () -> net.read(0, -1, 0));
        CHECKS.noIndex("plate 10", () -> net.read(0, 10, 0));
        CHECKS.noIndex("gate 2 in a minute to come", () -> net.read(2, 0, 6));
        CHECKS.noIndex("plate 10 in a minute to come", () -> net.read(0, 10, 6));
        CHECKS.noArgument("a minute to come", () -> net.read(0, 0, 6));
        CHECKS.noArgument("minute -1", () -> net.read(0, 0, -1));
        CHECKS.noArgument("the greatest minute", () -> net.read(0, 0, Integer.MAX_VALUE));
        CHECKS.noIndex("nothing was read", () -> net.ofReading(0, 0));
        for (int plate = 0; plate < 10; plate++) {
            CHECKS.equal("journeys after wrong readings", 0, net.journeys(plate));
        }
        CHECKS.equal("the first reading", 0, net.read(0, 0, 5));
    }

    private static void readLimit() {
        Tollweave net = Checks.withGates(2);
        net.pass(1200);
        for (int reading = 0; reading < 100; reading++) {
            CHECKS.equal("reading", reading, net.read(0, 7, 1188 - 12 * reading));
        }
        CHECKS.noState("reading 100", () -> net.read(0, 7, 0));
        CHECKS.noArgument("a wrong minute ahead of the limit", () -> net.read(0, 7, 1201));
        CHECKS.noIndex("no gate ahead of the limit", () -> net.read(2, 7, 0));
        CHECKS.noIndex("no plate ahead of the limit", () -> net.read(0, 10, 0));
        CHECKS.equal("each of them begins a journey", 100, net.journeys(7));
        CHECKS.equal("the first journey", 0, net.journey(7, 0, 0));
        CHECKS.equal("the last journey", 1188, net.journey(7, 99, 0));
        CHECKS.equal("the journey of reading 0", 99, net.ofReading(0, 5));
        CHECKS.equal("the journey of reading 99", 0, net.ofReading(99, 5));
        net.strike(50);
        CHECKS.noState("a struck reading leaves no room", () -> net.read(0, 7, 0));
        CHECKS.equal("a journey less", 99, net.journeys(7));
    }

    /** Promise 10. */
    private static void strikes() {
        Tollweave net = Checks.withGates(3);
        net.road(0, 1, 10, 0);
        net.road(1, 2, 10, 1);
        net.pass(1000);
        net.read(0, 1, 100);
        net.read(1, 1, 110);
        net.read(2, 1, 120);
        net.read(0, 1, 140);
        CHECKS.equal("fare", 400, net.due(1));
        net.strike(1);
        CHECKS.equal("the way goes on from the one ahead", 400, net.due(1));
        CHECKS.equal("readings that count", 3, net.journey(1, 0, 2));
        reading(net, 1, 1, 1, 110, 1, 0, -1);
        net.strike(3);
        CHECKS.equal("fare without the last", 200, net.due(1));
        CHECKS.equal("the last minute", 120, net.journey(1, 0, 1));
        net.strike(0);
        CHECKS.equal("the first minute", 120, net.journey(1, 0, 0));
        CHECKS.equal("the first without ways", 0, net.due(1));
        net.strike(2);
        CHECKS.equal("all are struck", 0, net.journeys(1));
        CHECKS.noIndex("no journey is left", () -> net.journey(1, 0, 0));
        CHECKS.equal("numbers go on", 4, net.read(0, 1, 100));
    }

    private static void wrongStrikes() {
        Tollweave net = Checks.withGates(1);
        CHECKS.noIndex("no readings", () -> net.strike(0));
        net.read(0, 0, 0);
        net.read(0, 1, 0);
        CHECKS.noIndex("reading -1", () -> net.strike(-1));
        CHECKS.noIndex("reading 2", () -> net.strike(2));
        CHECKS.noIndex("the greatest reading", () -> net.strike(Integer.MAX_VALUE));
        CHECKS.equal("not struck", 0, net.ofReading(0, 3));
        net.strike(0);
        CHECKS.noState("struck twice", () -> net.strike(0));
        CHECKS.equal("struck", 1, net.ofReading(0, 3));
        CHECKS.equal("the other one is not struck", 0, net.ofReading(1, 3));
        net.strike(1);
        CHECKS.equal("the other one is struck", 1, net.ofReading(1, 3));
    }

    /** Promise 11. */
    private static void passes() {
        Tollweave net = Checks.withGates(1);
        CHECKS.equal("the least pass", 1, net.pass(1));
        CHECKS.equal("the greatest pass", 1441, net.pass(1440));
        CHECKS.noArgument("0 minutes", () -> net.pass(0));
        CHECKS.noArgument("minutes below 0", () -> net.pass(-1));
        CHECKS.noArgument("1441 minutes", () -> net.pass(1441));
        CHECKS.noArgument("the greatest minutes", () -> net.pass(Integer.MAX_VALUE));
        CHECKS.noArgument("not now yet", () -> net.read(0, 0, 1442));
        CHECKS.equal("read now", 0, net.read(0, 0, 1441));
        for (int day = 2; day <= 69; day++) {
            CHECKS.equal("now", 1 + 1440 * day, net.pass(1440));
        }
        CHECKS.noState("now above the last minute", () -> net.pass(640));
        CHECKS.noState("a day above the last minute", () -> net.pass(1440));
        CHECKS.noArgument("too many minutes ahead of the last", () -> net.pass(1441));
        CHECKS.equal("now is the last minute", 100000, net.pass(639));
        CHECKS.noState("a minute behind the last", () -> net.pass(1));
        CHECKS.noArgument("no minutes at the last", () -> net.pass(0));
        CHECKS.equal("read in the last minute", 1, net.read(0, 0, 100000));
    }

    /** Promise 17. */
    private static void ofReadings() {
        Tollweave net = Checks.withGates(3);
        net.road(0, 1, 10, 0);
        net.pass(1000);
        net.read(0, 4, 100);
        net.read(1, 4, 110);
        net.read(2, 4, 112);
        net.read(0, 4, 90);
        net.read(0, 3, 105);
        reading(net, 0, 0, 4, 100, 0, 0, 0);
        reading(net, 1, 1, 4, 110, 0, 0, 0);
        reading(net, 2, 2, 4, 112, 0, 0, 1);
        reading(net, 3, 0, 4, 90, 0, 0, 0);
        reading(net, 4, 0, 3, 105, 0, 0, 0);
        net.read(2, 4, 50);
        reading(net, 5, 2, 4, 50, 0, 0, 0);
        reading(net, 0, 0, 4, 100, 0, 0, 1);
        reading(net, 2, 2, 4, 112, 0, 0, 2);
        reading(net, 4, 0, 3, 105, 0, 0, 0);
    }

    private static void doubles() {
        Tollweave net = Checks.withGates(2);
        net.road(0, 1, 1, 0);
        net.pass(1000);
        net.read(1, 0, 10);
        net.read(0, 0, 100);
        net.read(0, 0, 105);
        net.read(0, 0, 106);
        net.read(0, 0, 106);
        reading(net, 1, 0, 0, 100, 0, 0, 1);
        reading(net, 2, 0, 0, 105, 0, 1, 1);
        // 6 minutes behind the one that counts, though 1 behind the DOUBLE.
        reading(net, 3, 0, 0, 106, 0, 0, 1);
        reading(net, 4, 0, 0, 106, 0, 1, 1);
        CHECKS.equal("readings that count", 2, net.journey(0, 1, 2));
        CHECKS.equal("the last minute that counts", 106, net.journey(0, 1, 1));
        net.strike(1);
        reading(net, 1, 0, 0, 100, 1, 0, -1);
        reading(net, 2, 0, 0, 105, 0, 0, 1);
        reading(net, 3, 0, 0, 106, 0, 1, 1);
        net.strike(3);
        reading(net, 3, 0, 0, 106, 1, 0, -1);
        reading(net, 4, 0, 0, 106, 0, 1, 1);
        // A reading at another gate lies between: no DOUBLE. It is too quick behind number 2.
        CHECKS.equal("between", 5, net.read(1, 0, 105));
        reading(net, 2, 0, 0, 105, 0, 0, 1);
        reading(net, 5, 1, 0, 105, 0, 0, 2);
        reading(net, 4, 0, 0, 106, 0, 0, 2);
        List<Long> before = Checks.all(net, 2, 6);
        CHECKS.isTrue("asked twice", before.equals(Checks.all(net, 2, 6)));
        CHECKS.equal("a DOUBLE of a lone reading", 6, net.read(0, 1, 7));
        CHECKS.equal("in the same minute", 7, net.read(0, 1, 7));
        reading(net, 7, 0, 1, 7, 0, 1, 0);
        CHECKS.equal("of another plate", 8, net.read(0, 2, 7));
        reading(net, 8, 0, 2, 7, 0, 0, 0);
    }

    private static void wrongOfReadings() {
        Tollweave net = Checks.withGates(1);
        CHECKS.noIndex("no readings", () -> net.ofReading(0, 0));
        net.read(0, 0, 0);
        CHECKS.noIndex("reading -1", () -> net.ofReading(-1, 0));
        CHECKS.noIndex("reading 1", () -> net.ofReading(1, 0));
        CHECKS.noIndex("reading 1, what 6", () -> net.ofReading(1, 6));
        CHECKS.noArgument("what -1", () -> net.ofReading(0, -1));
        CHECKS.noArgument("what 6", () -> net.ofReading(0, 6));
        CHECKS.noArgument("the least what", () -> net.ofReading(0, Integer.MIN_VALUE));
    }
}
