/** Promises 4 and 5: rates, busy hours and the most; the fares and shares by them. */
public final class RateTest {
    private static final Checks CHECKS = new Checks("RateTest");

    public static void main(String[] args) {
        rates();
        wrongRates();
        busyHours();
        roundedDownForEachRoad();
        mosts();
        sharesOfTheMost();
        shareOfGreatNumbers();
        CHECKS.end();
    }

    /** A network 0 -7- 1 with the plate 0 read at both ends, minutes 0 and 7. */
    private static Tollweave oneRoad() {
        Tollweave net = Checks.withGates(2);
        net.road(0, 1, 7, 1);
        net.pass(1440);
        net.read(0, 0, 0);
        net.read(1, 0, 7);
        return net;
    }

    /** Promise 4. */
    private static void rates() {
        Tollweave net = oneRoad();
        CHECKS.equal("fare by the rate at first", 70, net.journey(0, 0, 3));
        net.rate(0, 3, 0);
        CHECKS.equal("fare by another rate", 21, net.journey(0, 0, 3));
        CHECKS.equal("due by another rate", 21, net.due(0));
        net.rate(1, 100, 300);
        CHECKS.equal("the rate of another class", 21, net.due(0));
        net.plate(0, 1, Tollweave.NONE);
        CHECKS.equal("the greatest rate", 700, net.due(0));
        net.plate(0, 2, Tollweave.NONE);
        CHECKS.equal("the rate of class 2 at first", 70, net.due(0));
        net.rate(2, 0, 300);
        CHECKS.equal("the least rate", 0, net.due(0));
        net.read(0, 5, 420);
        net.read(1, 5, 430);
        net.rate(0, 10, 300);
        CHECKS.equal("the greatest percent", 210, net.due(5));
        net.rate(0, 10, 0);
        CHECKS.equal("the least percent", 0, net.due(5));
    }

    private static void wrongRates() {
        Tollweave net = oneRoad();
        net.read(0, 1, 420);
        net.read(1, 1, 430);
        CHECKS.noArgument("class -1", () -> net.rate(-1, 1, 1));
        CHECKS.noArgument("class 3", () -> net.rate(3, 1, 1));
        CHECKS.noArgument("rate -1", () -> net.rate(0, -1, 1));
        CHECKS.noArgument("rate 101", () -> net.rate(0, 101, 1));
        CHECKS.noArgument("percent -1", () -> net.rate(0, 1, -1));
        CHECKS.noArgument("percent 301", () -> net.rate(0, 1, 301));
        CHECKS.noArgument("the least class", () -> net.rate(Integer.MIN_VALUE, 1, 1));
        CHECKS.equal("the rate is as it was", 70, net.due(0));
        CHECKS.equal("the percent is as it was", 105, net.due(1));
    }

    private static void busyHours() {
        int[] minutes = {
            419, 420, 479, 480, 539, 540, 959, 960, 1079, 1080, 1439, 1440,
            1859, 1860, 1979, 1980, 2399, 2400, 2519, 2520, 60 * 12, 60 * 31, 60 * 32, 60 * 33};
        boolean[] busy = {
            false, true, true, true, true, false, false, true, true, false, false, false,
            false, true, true, false, false, true, true, false, false, true, true, false};
        for (int at = 0; at < minutes.length; at++) {
            Tollweave net = Checks.withGates(2);
            net.road(0, 1, 7, 1);
            net.pass(1440);
            net.pass(1440);
            net.read(0, 0, minutes[at]);
            net.read(1, 0, minutes[at] + 10);
            CHECKS.equal("the fare from minute " + minutes[at] + " on", busy[at] ? 105 : 70,
                    net.journey(0, 0, 3));
        }
    }

    private static void roundedDownForEachRoad() {
        Tollweave net = Checks.withGates(3);
        net.road(0, 1, 1, 0);
        net.road(1, 2, 1, 0);
        net.rate(0, 1, 199);
        net.pass(1000);
        net.read(0, 0, 420);
        net.read(2, 0, 425);
        CHECKS.equal("each road is rounded down", 2, net.journey(0, 0, 3));
        net.rate(0, 99, 101);
        CHECKS.equal("99.99 for each road", 198, net.journey(0, 0, 3));
        net.rate(0, 1, 99);
        CHECKS.equal("0.99 for each road", 0, net.journey(0, 0, 3));
    }

    /** Promise 5. */
    private static void mosts() {
        Tollweave net = oneRoad();
        CHECKS.equal("the most at first", 5000, net.most(70));
        CHECKS.equal("a fare of just the most", 70, net.journey(0, 0, 3));
        CHECKS.equal("its share", 70, net.journey(0, 0, 6));
        CHECKS.equal("the most before", 70, net.most(69));
        CHECKS.equal("a fare of more than the most", 69, net.journey(0, 0, 3));
        CHECKS.equal("its cut share", 69, net.journey(0, 0, 6));
        CHECKS.noArgument("most -1", () -> net.most(-1));
        CHECKS.noArgument("most 100001", () -> net.most(100001));
        CHECKS.noArgument("the least most", () -> net.most(Integer.MIN_VALUE));
        CHECKS.equal("the most as it was", 69, net.most(100000));
        CHECKS.equal("the greatest most", 100000, net.most(0));
        CHECKS.equal("a fare of 0", 0, net.due(0));
        CHECKS.equal("a share of 0", 0, net.share(1, true));
        net.rate(0, 0, 0);
        CHECKS.equal("0 of 0", 0, net.journey(0, 0, 6));
        CHECKS.equal("the least most", 0, net.most(5000));
        net.read(0, 3, 100);
        CHECKS.equal("a share of a journey without a way", 0, net.journey(3, 0, 5));
    }

    /** Four owners: 30, 50, 50 and 20 are to be paid. */
    private static void sharesOfTheMost() {
        Tollweave net = Checks.withGates(5);
        net.road(0, 1, 3, 0);
        net.road(1, 2, 5, 1);
        net.road(2, 3, 5, 2);
        net.road(3, 4, 2, 3);
        net.pass(500);
        net.read(0, 0, 0);
        net.read(4, 0, 15);
        shares(net, 150, 30, 50, 50, 20);
        net.most(150);
        shares(net, 150, 30, 50, 50, 20);
        net.most(149);
        shares(net, 149, 29, 149 - 29 - 49 - 19, 49, 19);
        net.most(100);
        shares(net, 100, 20, 34, 33, 13);
        net.most(1);
        shares(net, 1, 0, 1, 0, 0);
        net.most(0);
        shares(net, 0, 0, 0, 0, 0);
        net.most(5000);
        net.read(4, 0, 21);
        net.read(3, 0, 25);
        shares(net, 170, 30, 50, 50, 40);
        net.most(101);
        // 30 * 101 / 170 = 17, 50 * 101 / 170 = 29, 40 * 101 / 170 = 23.
        shares(net, 101, 17, 101 - 17 - 29 - 23, 29, 23);
    }

    private static void shares(Tollweave net, int fare, int... shares) {
        CHECKS.equal("fare", fare, net.journey(0, 0, 3));
        CHECKS.equal("due", fare, net.due(0));
        for (int owner = 0; owner < 4; owner++) {
            CHECKS.equal("share of " + owner + " of " + fare, shares[owner],
                    net.journey(0, 0, 5 + owner));
            CHECKS.equal("due share of " + owner + " of " + fare, shares[owner],
                    net.share(owner, true));
        }
    }

    /** What is to be paid, 65000 for each of two owners, times the most is above an int. */
    private static void shareOfGreatNumbers() {
        Tollweave net = Checks.withGates(3);
        net.road(0, 1, 50, 3);
        net.road(1, 2, 50, 1);
        net.rate(0, 100, 300);
        net.most(99999);
        net.pass(1440);
        int[] gates = {0, 1, 2, 1};
        for (int reading = 0; reading < 15; reading++) {
            net.read(gates[reading % 4], 0, 420 + 50 * reading);
        }
        CHECKS.equal("one journey", 1, net.journeys(0));
        shares(net, 99999, 0, 50000, 0, 49999);
        net.most(100000);
        shares(net, 100000, 0, 50000, 0, 50000);
    }
}
