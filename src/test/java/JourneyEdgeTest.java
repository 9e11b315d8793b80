/** The sentences of 'Journeys' in the document, one by one, at their edges. */
public final class JourneyEdgeTest {
    private static final Checks CHECKS = new Checks("JourneyEdgeTest");

    public static void main(String[] args) {
        orderByMinutes();
        orderByNumbers();
        struckOnesNotInOrder();
        otherPlatesNotInOrder();
        doubleUpTo5();
        doubleOnlyAtTheSameGate();
        doubleOfTheOneThatCounts();
        doubleDoesNotCount();
        doubleOfAStruckOne();
        goesOnByDistance();
        goesOnUpTo3TimesAnd10();
        goesOnOverTheLongestWay();
        goesOnFromTheOneAhead();
        sameGateGoesOn();
        beginsWithoutWay();
        lateReadingsMoveNumbers();
        told();
        toldOfReadings();
        askedInAnyOrder();
        over();
        CHECKS.end();
    }

    /** Two gates with one road between them, and now at 2000. */
    private static Tollweave twoGates(int length) {
        Tollweave net = Checks.withGates(2);
        net.road(0, 1, length, 0);
        net.pass(1000);
        net.pass(1000);
        return net;
    }

    private static void journey(Tollweave net, int journey, int first, int last, int counting) {
        CHECKS.equal("first minute of " + journey, first, net.journey(0, journey, 0));
        CHECKS.equal("last minute of " + journey, last, net.journey(0, journey, 1));
        CHECKS.equal("counting of " + journey, counting, net.journey(0, journey, 2));
    }

    private static void reading(Tollweave net, int reading, int isDouble, int journey) {
        CHECKS.equal("DOUBLE " + reading, isDouble, net.ofReading(reading, 4));
        CHECKS.equal("journey of " + reading, journey, net.ofReading(reading, 5));
    }

    /** "put in order by minutes": late ones in all orders of coming. */
    private static void orderByMinutes() {
        int[][] orders = {{0, 1, 2}, {0, 2, 1}, {1, 0, 2}, {1, 2, 0}, {2, 0, 1}, {2, 1, 0}};
        for (int[] order : orders) {
            Tollweave net = twoGates(10);
            for (int at : order) {
                net.read(at % 2, 0, 100 + 10 * at);
            }
            CHECKS.equal("one journey", 1, net.journeys(0));
            journey(net, 0, 100, 120, 3);
            CHECKS.equal("fare", 200, net.journey(0, 0, 3));
        }
    }

    /** "of the same by numbers": the first number is ahead, so the later one goes on from there. */
    private static void orderByNumbers() {
        Tollweave net = twoGates(10);
        net.read(0, 0, 100);
        net.read(1, 0, 100);
        net.read(0, 0, 110);
        // Ahead of the reading 2 is the reading 1, from whose gate there are 10 minutes to it.
        reading(net, 0, 0, 0);
        reading(net, 1, 0, 1);
        reading(net, 2, 0, 1);
        Tollweave other = twoGates(10);
        other.read(0, 0, 110);
        other.read(1, 0, 100);
        other.read(0, 0, 100);
        // Now the reading 2 is ahead of the reading 0, of the same gate, 10 minutes between.
        reading(other, 1, 0, 0);
        reading(other, 2, 0, 1);
        reading(other, 0, 0, 1);
        CHECKS.equal("no way is gone", 0, other.due(0));
        CHECKS.equal("a way is gone", 100, net.due(0));
    }

    /** "The readings of a plate that are not struck" */
    private static void struckOnesNotInOrder() {
        for (int struck = 0; struck < 3; struck++) {
            Tollweave net = twoGates(5);
            net.read(0, 0, 100);
            net.read(1, 0, 105);
            net.read(0, 0, 110);
            net.strike(struck);
            int first = struck == 0 ? 105 : 100;
            int last = struck == 2 ? 105 : 110;
            CHECKS.equal("one journey", 1, net.journeys(0));
            journey(net, 0, first, last, 2);
            CHECKS.equal("fare", struck == 1 ? 0 : 50, net.journey(0, 0, 3));
            reading(net, struck, 0, Tollweave.NONE);
        }
        Tollweave all = twoGates(10);
        all.read(0, 0, 100);
        all.strike(0);
        CHECKS.equal("none is left", 0, all.journeys(0));
        CHECKS.noIndex("no journey", () -> all.journey(0, 0, 0));
    }

    private static void otherPlatesNotInOrder() {
        Tollweave net = twoGates(10);
        net.read(0, 0, 100);
        net.read(0, 9, 100);
        net.read(1, 9, 110);
        net.read(0, 1, 105);
        net.read(1, 0, 110);
        for (int plate : new int[] {0, 1, 9}) {
            CHECKS.equal("one journey each", 1, net.journeys(plate));
        }
        CHECKS.equal("two readings of plate 0", 2, net.journey(0, 0, 2));
        CHECKS.equal("one of plate 1", 1, net.journey(1, 0, 2));
        CHECKS.equal("two of plate 9", 2, net.journey(9, 0, 2));
        for (int reading = 0; reading < 5; reading++) {
            reading(net, reading, 0, 0);
        }
    }

    /** "at most 5 minutes behind that, is a DOUBLE" */
    private static void doubleUpTo5() {
        for (int minutes = 0; minutes <= 7; minutes++) {
            Tollweave net = twoGates(1);
            net.read(0, 0, 100);
            net.read(0, 0, 100 + minutes);
            boolean isDouble = minutes <= 5;
            reading(net, 0, 0, 0);
            reading(net, 1, isDouble ? 1 : 0, 0);
            CHECKS.equal("one journey", 1, net.journeys(0));
            journey(net, 0, 100, isDouble ? 100 : 100 + minutes, isDouble ? 1 : 2);
        }
    }

    /** "One at the gate of the one ahead of it that counts" */
    private static void doubleOnlyAtTheSameGate() {
        for (int minutes = 0; minutes <= 5; minutes++) {
            Tollweave net = twoGates(3);
            net.read(0, 0, 100);
            net.read(1, 0, 100 + minutes);
            reading(net, 1, 0, minutes < 3 ? 1 : 0);
            net.read(0, 0, 100 + minutes);
            // The one ahead is at the gate 1 now, though there is one at the gate 0 before.
            reading(net, 2, 0, minutes < 3 ? 2 : 1);
        }
    }

    /** The 5 minutes are counted from the one that counts, not from another DOUBLE. */
    private static void doubleOfTheOneThatCounts() {
        Tollweave net = twoGates(1);
        for (int minute = 0; minute <= 18; minute += 3) {
            net.read(0, 0, 100 + minute);
        }
        int[] doubles = {0, 1, 0, 1, 0, 1, 0};
        for (int reading = 0; reading < doubles.length; reading++) {
            reading(net, reading, doubles[reading], 0);
        }
        journey(net, 0, 100, 118, 4);
        net.strike(0);
        for (int reading = 1; reading < doubles.length; reading++) {
            reading(net, reading, 1 - doubles[reading], 0);
        }
        journey(net, 0, 103, 115, 3);
    }

    /** "and does not count otherwise": nothing is measured from a DOUBLE. */
    private static void doubleDoesNotCount() {
        int[] minutes = {105, 109, 110, 115, 140, 141, 145};
        int[] journeys = {2, 2, 1, 1, 1, 2, 2};
        for (int at = 0; at < minutes.length; at++) {
            Tollweave net = twoGates(10);
            net.read(0, 0, 100);
            net.read(0, 0, 105);
            net.read(1, 0, minutes[at]);
            reading(net, 1, 1, 0);
            reading(net, 2, 0, journeys[at] - 1);
            CHECKS.equal("journeys", journeys[at], net.journeys(0));
        }
    }

    private static void doubleOfAStruckOne() {
        Tollweave net = twoGates(1);
        net.read(0, 0, 100);
        net.read(0, 0, 105);
        net.read(0, 0, 110);
        reading(net, 1, 1, 0);
        reading(net, 2, 0, 0);
        net.strike(1);
        reading(net, 1, 0, Tollweave.NONE);
        reading(net, 2, 0, 0);
        net.strike(0);
        reading(net, 2, 0, 0);
        journey(net, 0, 110, 110, 1);
        net.read(0, 0, 105);
        reading(net, 3, 0, 0);
        reading(net, 2, 1, 0);
        journey(net, 0, 105, 105, 1);
    }

    /** "as many minutes as the distance, or more" */
    private static void goesOnByDistance() {
        for (int length = 1; length <= 50; length++) {
            goes(twoGates(length), length - 1, false);
            goes(twoGates(length), length, true);
            goes(twoGates(length), length + 1, true);
        }
    }

    /** "at most 3 times the distance and 10" */
    private static void goesOnUpTo3TimesAnd10() {
        for (int length = 1; length <= 50; length++) {
            goes(twoGates(length), 3 * length + 9, true);
            goes(twoGates(length), 3 * length + 10, true);
            goes(twoGates(length), 3 * length + 11, false);
        }
    }

    private static void goes(Tollweave net, int minutes, boolean isOn) {
        net.read(0, 0, 7);
        net.read(1, 0, 7 + minutes);
        CHECKS.equal("journeys with " + minutes + " between", isOn ? 1 : 2, net.journeys(0));
        CHECKS.equal("journey of the second", isOn ? 0 : 1, net.ofReading(1, 5));
        journey(net, 0, 7, isOn ? 7 + minutes : 7, isOn ? 2 : 1);
    }

    private static void goesOnOverTheLongestWay() {
        int[] minutes = {549, 550, 1660, 1661};
        for (int between : minutes) {
            Tollweave net = Checks.withGates(12);
            net.pass(1440);
            net.pass(1440);
            for (int gate = 0; gate < 11; gate++) {
                net.road(gate, gate + 1, 50, 0);
            }
            net.read(11, 0, 0);
            net.read(0, 0, between);
            CHECKS.equal("journeys with " + between + " between",
                    between >= 550 && between <= 1660 ? 1 : 2, net.journeys(0));
        }
    }

    /** "the journey of the one ahead of it that counts": the last one, not any before. */
    private static void goesOnFromTheOneAhead() {
        Tollweave net = Checks.withGates(3);
        net.road(0, 1, 10, 0);
        net.pass(1000);
        net.read(0, 0, 100);
        net.read(2, 0, 105);
        net.read(1, 0, 110);
        CHECKS.equal("a gate apart lies between", 3, net.journeys(0));
        net.strike(1);
        CHECKS.equal("it is struck", 1, net.journeys(0));
        CHECKS.equal("fare", 100, net.due(0));
    }

    /** "one at the same gate goes on, if 6 to 10 minutes lie between them; it adds no way" */
    private static void sameGateGoesOn() {
        for (int minutes = 4; minutes <= 13; minutes++) {
            Tollweave net = twoGates(1);
            net.read(1, 0, 420);
            net.read(1, 0, 420 + minutes);
            boolean isOn = minutes >= 6 && minutes <= 10;
            CHECKS.equal("journeys", minutes > 10 ? 2 : 1, net.journeys(0));
            journey(net, 0, 420, isOn ? 420 + minutes : 420, isOn ? 2 : 1);
            CHECKS.equal("fare", 0, net.journey(0, 0, 3));
            CHECKS.equal("due", 0, net.due(0));
        }
        Tollweave lone = Checks.withGates(1);
        lone.pass(100);
        lone.read(0, 0, 0);
        lone.read(0, 0, 10);
        lone.read(0, 0, 21);
        CHECKS.equal("without any road", 2, lone.journeys(0));
    }

    /** "if there is a way from the gate of that": otherwise it begins one, whatever the minutes. */
    private static void beginsWithoutWay() {
        for (int minutes : new int[] {0, 1, 5, 6, 10, 11, 100, 1000}) {
            Tollweave net = Checks.withGates(3);
            net.pass(1440);
            net.road(1, 2, 1, 0);
            net.read(0, 0, 100);
            net.read(1, 0, 100 + minutes);
            CHECKS.equal("journeys", 2, net.journeys(0));
            reading(net, 1, 0, 1);
        }
    }

    /** "in the order in which they begin" */
    private static void lateReadingsMoveNumbers() {
        Tollweave net = twoGates(10);
        net.read(0, 0, 900);
        net.read(0, 0, 600);
        net.read(0, 0, 300);
        net.read(0, 0, 0);
        for (int reading = 0; reading < 4; reading++) {
            reading(net, reading, 0, 3 - reading);
            journey(net, reading, 300 * reading, 300 * reading, 1);
        }
        net.strike(3);
        for (int reading = 0; reading < 3; reading++) {
            reading(net, reading, 0, 2 - reading);
        }
    }

    /** Promise 16: each what of a journey, of which no two are the same number. */
    private static void told() {
        Tollweave net = Checks.withGates(5);
        for (int owner = 0; owner < 4; owner++) {
            net.road(owner, owner + 1, owner + 2, owner);
        }
        net.pass(1000);
        net.read(0, 0, 100);
        net.read(4, 0, 120);
        int[] due = {100, 120, 2, 140, 1, 20, 30, 40, 50};
        for (int what = 0; what <= 8; what++) {
            CHECKS.equal("what " + what, due[what], net.journey(0, 0, what));
        }
        CHECKS.noArgument("what 9", () -> net.journey(0, 0, 9));
        CHECKS.noArgument("what -1", () -> net.journey(0, 0, -1));
    }

    /** Promise 17: each what of a reading, of which no two are the same number. */
    private static void toldOfReadings() {
        Tollweave net = Checks.withGates(12);
        net.pass(1000);
        for (int begin = 0; begin < 7; begin++) {
            net.read(3, 4, begin * 11);
        }
        net.read(11, 4, 900);
        net.read(11, 4, 905);
        int[] counting = {11, 4, 900, 0, 0, 7};
        int[] isDouble = {11, 4, 905, 0, 1, 7};
        int[] struck = {11, 4, 905, 1, 0, -1};
        for (int what = 0; what <= 5; what++) {
            CHECKS.equal("of one that counts", counting[what], net.ofReading(7, what));
            CHECKS.equal("of a DOUBLE", isDouble[what], net.ofReading(8, what));
        }
        net.strike(8);
        for (int what = 0; what <= 5; what++) {
            CHECKS.equal("of a struck one", struck[what], net.ofReading(8, what));
        }
    }

    /** Each answer is of now and of its own plate, whatever was asked last. */
    private static void askedInAnyOrder() {
        for (int what = 4; what <= 5; what++) {
            Tollweave net = twoGates(10);
            net.read(0, 0, 100);
            net.read(0, 0, 400);
            net.read(0, 0, 404);
            net.read(0, 1, 404);
            CHECKS.equal("what of plate 0", 1, net.ofReading(2, what));
            CHECKS.equal("what of plate 1", 0, net.ofReading(3, what));
            net.strike(1);
            CHECKS.equal("what behind a strike", what == 4 ? 0 : 1, net.ofReading(2, what));
            net.strike(0);
            CHECKS.equal("what behind two", 0, net.ofReading(2, what));
            CHECKS.equal("journeys of the other plate", 1, net.journeys(1));
            net.read(0, 0, 402);
            CHECKS.equal("what behind a late one", what == 4 ? 1 : 0, net.ofReading(2, what));
        }
    }

    /** "over, if its last reading that counts is at least 60 minutes ago" */
    private static void over() {
        for (int minutes = 55; minutes <= 65; minutes++) {
            Tollweave net = Checks.withGates(2);
            net.road(0, 1, 10, 0);
            net.pass(100 + minutes);
            net.read(0, 0, 90);
            net.read(1, 0, 100);
            net.read(1, 0, 105);
            boolean isOver = minutes >= 60;
            CHECKS.equal("over after " + minutes, isOver ? 1 : 0, net.journey(0, 0, 4));
            CHECKS.equal("due after " + minutes, isOver ? 100 : 0, net.due(0));
            CHECKS.equal("due to the owner", isOver ? 100 : 0, net.share(0, true));
            CHECKS.equal("journeys, over or not", 1, net.journeys(0));
            CHECKS.equal("billed after " + minutes, isOver ? 100 : 0, net.bill());
            CHECKS.equal("got after " + minutes, isOver ? 100 : 0, net.share(0, false));
            CHECKS.equal("taken after " + minutes, isOver ? -100 : 0, net.own(0));
        }
    }
}
