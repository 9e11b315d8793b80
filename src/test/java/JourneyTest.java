/** Promises 15 and 16: the journeys of a plate and what is told of them. */
public final class JourneyTest {
    private static final Checks CHECKS = new Checks("JourneyTest");

    public static void main(String[] args) {
        spansOfMinutes();
        sameGate();
        withoutWay();
        orderOfReadings();
        toldOfJourneys();
        over();
        longWay();
        wayGoneByDirection();
        changedLater();
        wrongAsked();
        CHECKS.end();
    }

    /** A network 0 -10- 1 -5- 2, a gate 3 apart, and now at 1000. */
    private static Tollweave line() {
        Tollweave net = Checks.withGates(4);
        net.road(0, 1, 10, 0);
        net.road(1, 2, 5, 1);
        net.pass(1000);
        return net;
    }

    /** Promise 15: how many minutes may lie between two readings of one journey. */
    private static void spansOfMinutes() {
        int[] minutes = {0, 1, 14, 15, 16, 40, 54, 55, 56, 57, 200};
        int[] due = {2, 2, 2, 1, 1, 1, 1, 1, 2, 2, 2};
        for (int at = 0; at < minutes.length; at++) {
            Tollweave net = line();
            net.read(0, 0, 100);
            net.read(2, 0, 100 + minutes[at]);
            CHECKS.equal("journeys with " + minutes[at] + " minutes between", due[at],
                    net.journeys(0));
            CHECKS.equal("fare with " + minutes[at] + " minutes between", due[at] == 1 ? 150 : 0,
                    net.due(0));
        }
    }

    private static void sameGate() {
        int[] minutes = {0, 1, 5, 6, 10, 11};
        int[] journeys = {1, 1, 1, 1, 1, 2};
        int[] counting = {1, 1, 1, 2, 2, 1};
        for (int at = 0; at < minutes.length; at++) {
            Tollweave net = line();
            net.read(1, 0, 100);
            net.read(1, 0, 100 + minutes[at]);
            String what = " at the same gate after " + minutes[at];
            CHECKS.equal("journeys" + what, journeys[at], net.journeys(0));
            CHECKS.equal("counting" + what, counting[at], net.journey(0, 0, 2));
            CHECKS.equal("fare" + what, 0, net.due(0));
            CHECKS.equal("DOUBLE" + what, minutes[at] <= 5 ? 1 : 0, net.ofReading(1, 4));
        }
    }

    private static void withoutWay() {
        Tollweave net = line();
        net.read(0, 0, 100);
        net.read(3, 0, 110);
        net.read(0, 0, 120);
        CHECKS.equal("journeys without ways", 3, net.journeys(0));
        // The one ahead is that of the gate 3, not the one of the gate 0 before it.
        net.read(3, 0, 121);
        CHECKS.equal("each begins one", 4, net.journeys(0));
        net.road(3, 0, 1, 2);
        CHECKS.equal("journeys with a way", 1, net.journeys(0));
        CHECKS.equal("all go on", 4, net.journey(0, 0, 2));
    }

    /** Promise 9 and 15: late readings are put between; of the same minute by numbers. */
    private static void orderOfReadings() {
        Tollweave net = line();
        net.read(2, 0, 120);
        net.read(0, 0, 100);
        CHECKS.equal("a late reading goes ahead", 1, net.journeys(0));
        CHECKS.equal("fare", 150, net.due(0));
        net.read(1, 0, 110);
        CHECKS.equal("a late one between", 3, net.journey(0, 0, 2));
        CHECKS.equal("the fare is as it was", 150, net.due(0));
        net.read(0, 0, 110);
        // In the minute 110: first 1 (number 2), then 0 (number 3), too quick for both next to it.
        CHECKS.equal("of the same minute by numbers", 3, net.journeys(0));
        CHECKS.equal("the journey of number 2", 0, net.ofReading(2, 5));
        CHECKS.equal("the journey of number 3", 1, net.ofReading(3, 5));
        CHECKS.equal("the journey of number 0", 2, net.ofReading(0, 5));
        CHECKS.equal("fare of the first leg alone", 100, net.due(0));
        Tollweave same = line();
        same.read(0, 0, 50);
        same.read(1, 0, 50);
        same.read(0, 0, 50);
        same.read(1, 0, 50);
        for (int reading = 0; reading < 4; reading++) {
            CHECKS.equal("journeys of one minute, by numbers", reading, same.ofReading(reading, 5));
        }
        Tollweave two = line();
        two.read(0, 0, 100);
        two.read(2, 1, 101);
        two.read(1, 0, 110);
        CHECKS.equal("readings of other plates do not count", 1, two.journeys(0));
        CHECKS.equal("each plate has its own", 1, two.journeys(1));
        CHECKS.equal("a plate without readings", 0, two.journeys(2));
    }

    /** Promise 16. */
    private static void toldOfJourneys() {
        Tollweave net = line();
        net.read(0, 6, 425);
        net.read(1, 6, 440);
        net.read(1, 6, 443);
        net.read(2, 6, 480);
        net.read(2, 6, 600);
        journey(net, 0, 425, 440, 2, 150, 1, 150, 0, 0, 0);
        // 40 minutes from 1 to 2 are more than 3 * 5 + 10.
        journey(net, 1, 480, 480, 1, 0, 1, 0, 0, 0, 0);
        journey(net, 2, 600, 600, 1, 0, 1, 0, 0, 0, 0);
        CHECKS.equal("a late one", 5, net.read(1, 6, 460));
        journey(net, 0, 425, 440, 2, 150, 1, 150, 0, 0, 0);
        journey(net, 1, 460, 480, 2, 75, 1, 0, 75, 0, 0);
        CHECKS.equal("and another one", 6, net.read(1, 6, 450));
        journey(net, 0, 425, 480, 5, 225, 1, 150, 75, 0, 0);
        journey(net, 1, 600, 600, 1, 0, 1, 0, 0, 0, 0);
        CHECKS.equal("journeys", 2, net.journeys(6));
    }

    private static void journey(Tollweave net, int journey, int... told) {
        for (int what = 0; what < told.length; what++) {
            CHECKS.equal("journey(6, " + journey + ", " + what + ")", told[what],
                    net.journey(6, journey, what));
        }
    }

    private static void over() {
        Tollweave net = line();
        net.read(0, 0, 930);
        net.read(1, 0, 941);
        net.read(1, 0, 944);
        CHECKS.equal("59 minutes ago", 0, net.journey(0, 0, 4));
        CHECKS.equal("nothing is due yet", 0, net.due(0));
        CHECKS.equal("nothing is due to the owner yet", 0, net.share(0, true));
        CHECKS.equal("nothing is billed yet", 0, net.bill());
        CHECKS.equal("but it has a fare", 100, net.journey(0, 0, 3));
        CHECKS.equal("and a share", 100, net.journey(0, 0, 5));
        net.pass(1);
        CHECKS.equal("60 minutes ago, the DOUBLE less", 1, net.journey(0, 0, 4));
        CHECKS.equal("due", 100, net.due(0));
        CHECKS.equal("due to the owner", 100, net.share(0, true));
        CHECKS.equal("billed", 100, net.bill());
        CHECKS.equal("a reading that goes on", 3, net.read(2, 0, 950));
        CHECKS.equal("is not over any more", 0, net.journey(0, 0, 4));
        CHECKS.equal("due no more", 0, net.due(0));
        CHECKS.equal("paid back", -100, net.bill());
        CHECKS.equal("the owner has nothing", 0, net.share(0, false));
        net.pass(9);
        CHECKS.equal("over again", 150, net.bill());
        CHECKS.equal("read now, too late to go on", 4, net.read(2, 0, 1010));
        CHECKS.equal("two journeys that are not both over", 150, net.due(0));
        CHECKS.equal("the first is over", 1, net.journey(0, 0, 4));
        CHECKS.equal("the second is not", 0, net.journey(0, 1, 4));
    }

    /** A way of several roads is paid by the hour of the reading ahead, road by road. */
    private static void longWay() {
        Tollweave net = Checks.withGates(12);
        for (int gate = 0; gate < 11; gate++) {
            net.road(gate, gate + 1, 1, gate % 4);
        }
        net.pass(1000);
        net.rate(0, 7, 150);
        net.read(0, 6, 539);
        net.read(11, 6, 550);
        journey(net, 0, 539, 550, 2, 110, 1, 30, 30, 30, 20);
        net.read(0, 6, 561);
        journey(net, 0, 539, 561, 3, 187, 1, 51, 51, 51, 34);
    }

    /** Of two ways of the same length, the one that is gone depends on where one comes from. */
    private static void wayGoneByDirection() {
        Tollweave net = Checks.withGates(4);
        net.road(0, 1, 5, 0);
        net.road(0, 2, 4, 1);
        net.road(2, 3, 6, 2);
        net.road(1, 3, 5, 3);
        net.pass(1000);
        net.read(0, 6, 0);
        net.read(3, 6, 10);
        journey(net, 0, 0, 10, 2, 100, 1, 50, 0, 0, 50);
        net.read(0, 6, 20);
        journey(net, 0, 0, 20, 3, 200, 1, 50, 40, 60, 50);
    }

    /** A new road changes journeys of before. */
    private static void changedLater() {
        Tollweave net = line();
        net.read(0, 6, 100);
        net.read(2, 6, 110);
        CHECKS.equal("too quick", 2, net.journeys(6));
        CHECKS.equal("bill", 0, net.bill());
        net.road(0, 2, 10, 3);
        journey(net, 0, 100, 110, 2, 100, 1, 0, 0, 0, 100);
        CHECKS.equal("bill by the new road", 100, net.bill());
        net.road(0, 2, 1, 2);
        CHECKS.equal("not too slow", 1, net.journeys(6));
        CHECKS.equal("bill by a shorter road", -90, net.bill());
        CHECKS.equal("the owner before", 0, net.share(3, false));
        CHECKS.equal("the owner now", 10, net.share(2, false));
        net.read(0, 6, 123);
        CHECKS.equal("at most 13 minutes", 1, net.journeys(6));
        net.read(2, 6, 137);
        CHECKS.equal("14 minutes are too slow", 2, net.journeys(6));
    }

    private static void wrongAsked() {
        Tollweave net = line();
        CHECKS.noIndex("journeys(-1)", () -> net.journeys(-1));
        CHECKS.noIndex("journeys(10)", () -> net.journeys(10));
        CHECKS.noIndex("no journey yet", () -> net.journey(0, 0, 0));
        net.read(0, 0, 0);
        CHECKS.noIndex("journey(-1, 0, 0)", () -> net.journey(-1, 0, 0));
        CHECKS.noIndex("journey(10, 0, 0)", () -> net.journey(10, 0, 0));
        CHECKS.noIndex("journey(0, -1, 0)", () -> net.journey(0, -1, 0));
        CHECKS.noIndex("journey(0, 1, 0)", () -> net.journey(0, 1, 0));
        CHECKS.noIndex("journey(1, 0, 0)", () -> net.journey(1, 0, 0));
        CHECKS.noIndex("no journey ahead of a wrong what", () -> net.journey(0, 1, 9));
        CHECKS.noIndex("no plate ahead of a wrong what", () -> net.journey(10, 0, -1));
        CHECKS.noArgument("what -1", () -> net.journey(0, 0, -1));
        CHECKS.noArgument("what 9", () -> net.journey(0, 0, 9));
        CHECKS.noArgument("the greatest what", () -> net.journey(0, 0, Integer.MAX_VALUE));
    }
}
