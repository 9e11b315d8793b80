import java.util.Arrays;

/** The sentences of 'Fares' on fares and shares, and those on busy hours, at their edges. */
public final class FareEdgeTest {
    private static final Checks CHECKS = new Checks("FareEdgeTest");

    public static void main(String[] args) {
        busyHours();
        hourOfTheFormer();
        hourOfEachLeg();
        hourBehindADouble();
        leastAndGreatestRates();
        classOfThePlate();
        roundedDown();
        eachRoadRoundedDown();
        notBusyIsNotRounded();
        exemptFromBothMinutes();
        exemptInTheFormer();
        exemptBehindADouble();
        exemptAtFirstAndLastMinutes();
        exemptBesidesThoseOfBefore();
        exemptOnlyThePlate();
        atMostTheMost();
        mostOfEachJourney();
        sharesUpToTheMost();
        sharesRoundedDown();
        whatIsLeft();
        lowestOfSeveral();
        sharesOfNothing();
        notOverHasAFare();
        CHECKS.end();
    }

    /** 0 -10- 1 of owner 0, and now is the last minute. */
    private static Tollweave oneRoad() {
        Tollweave net = Checks.withGates(2);
        net.road(0, 1, 10, 0);
        lastMinute(net);
        return net;
    }

    private static void lastMinute(Tollweave net) {
        for (int day = 0; day < 69; day++) {
            net.pass(1440);
        }
        net.pass(640);
    }

    private static long fareOfLeg(int minute, int minutes) {
        Tollweave net = oneRoad();
        net.read(0, 0, minute);
        net.read(1, 0, minute + minutes);
        return net.journey(0, 0, 3);
    }

    /** "divided by 60, rounded down, modulo 24; it is busy, if it is 7, 8, 16 or 17" */
    private static void busyHours() {
        for (int day : new int[] {0, 1, 2, 35, 68, 69}) {
            for (int hour = 0; hour < 24; hour++) {
                boolean busy = hour == 7 || hour == 8 || hour == 16 || hour == 17;
                for (int minute : new int[] {0, 1, 30, 58, 59}) {
                    int former = 1440 * day + 60 * hour + minute;
                    if (former + 10 <= 100000) {
                        CHECKS.equal("fare from day " + day + " " + hour + ":" + minute,
                                busy ? 150 : 100, fareOfLeg(former, 10));
                    }
                }
            }
        }
    }

    /** "if the hour of the former reading is not busy": the later one does not matter. */
    private static void hourOfTheFormer() {
        CHECKS.equal("from 6:59 to 7:10", 100, fareOfLeg(419, 11));
        CHECKS.equal("from 7:00 to 7:10", 150, fareOfLeg(420, 10));
        CHECKS.equal("from 8:59 to 9:10", 150, fareOfLeg(539, 11));
        CHECKS.equal("from 9:00 to 9:10", 100, fareOfLeg(540, 10));
        CHECKS.equal("from 15:59 to 16:10", 100, fareOfLeg(959, 11));
        CHECKS.equal("from 16:00 to 16:10", 150, fareOfLeg(960, 10));
        CHECKS.equal("from 17:59 to 18:10", 150, fareOfLeg(1079, 11));
        CHECKS.equal("from 18:00 to 18:10", 100, fareOfLeg(1080, 10));
        CHECKS.equal("over midnight", 100, fareOfLeg(1439, 11));
    }

    private static void hourOfEachLeg() {
        Tollweave net = oneRoad();
        net.read(0, 0, 409);
        net.read(1, 0, 419);
        net.read(0, 0, 430);
        CHECKS.equal("two calm legs", 200, net.journey(0, 0, 3));
        net.read(1, 0, 440);
        CHECKS.equal("a busy one behind them", 350, net.journey(0, 0, 3));
    }

    private static void hourBehindADouble() {
        Tollweave net = oneRoad();
        net.read(0, 0, 419);
        net.read(0, 0, 424);
        net.read(1, 0, 434);
        CHECKS.equal("the hour of the one that counts", 100, net.journey(0, 0, 3));
        net.strike(0);
        CHECKS.equal("now that was the DOUBLE", 150, net.journey(0, 0, 3));
    }

    /** "rate: 0 to 100", "percent: 0 to 300" */
    private static void leastAndGreatestRates() {
        int[] rates = {0, 1, 99, 100};
        int[] percents = {0, 1, 100, 299, 300};
        for (int rate : rates) {
            for (int percent : percents) {
                Tollweave net = oneRoad();
                net.rate(0, rate, percent);
                net.read(0, 0, 100);
                net.read(1, 0, 110);
                net.read(0, 1, 420);
                net.read(1, 1, 430);
                CHECKS.equal("calm by " + rate, 10 * rate, net.journey(0, 0, 3));
                CHECKS.equal("busy by " + rate + " and " + percent, 10 * rate * percent / 100,
                        net.journey(1, 0, 3));
            }
        }
    }

    private static void classOfThePlate() {
        for (int kind = 0; kind < 3; kind++) {
            Tollweave net = oneRoad();
            net.rate(0, 2, 200);
            net.rate(1, 3, 201);
            net.rate(2, 5, 202);
            net.plate(9, kind, Tollweave.NONE);
            net.read(0, 9, 100);
            net.read(1, 9, 110);
            net.read(0, 9, 420);
            net.read(1, 9, 430);
            int rate = kind == 2 ? 5 : 2 + kind;
            CHECKS.equal("calm", 10 * rate, net.journey(9, 0, 3));
            CHECKS.equal("busy", 10 * rate * (200 + kind) / 100, net.journey(9, 1, 3));
        }
    }

    /** "divided by 100, rounded down": 99 hundredths and less are dropped. */
    private static void roundedDown() {
        int[] percents = {9, 10, 11, 19, 20, 99, 100, 101, 109, 110};
        int[] due = {0, 1, 1, 1, 2, 9, 10, 10, 10, 11};
        for (int at = 0; at < percents.length; at++) {
            Tollweave net = oneRoad();
            net.rate(0, 1, percents[at]);
            net.read(0, 0, 420);
            net.read(1, 0, 430);
            CHECKS.equal("fare by " + percents[at], due[at], net.journey(0, 0, 3));
        }
    }

    /** "for each road on it": each is rounded down by itself, in shares too. */
    private static void eachRoadRoundedDown() {
        Tollweave net = Checks.withGates(5);
        for (int gate = 0; gate < 4; gate++) {
            net.road(gate, gate + 1, 1, gate % 2);
        }
        net.pass(1000);
        net.rate(0, 1, 199);
        net.read(0, 0, 420);
        net.read(4, 0, 424);
        CHECKS.equal("4 times 1.99", 4, net.journey(0, 0, 3));
        CHECKS.equal("2 times 1.99", 2, net.journey(0, 0, 5));
        CHECKS.equal("2 times 1.99", 2, net.journey(0, 0, 6));
        net.rate(0, 1, 99);
        CHECKS.equal("4 times 0.99", 0, net.journey(0, 0, 3));
    }

    /** "times the busy percent, or 100": a calm hour has no percent. */
    private static void notBusyIsNotRounded() {
        Tollweave net = oneRoad();
        net.rate(0, 7, 0);
        net.read(0, 0, 100);
        net.read(1, 0, 110);
        CHECKS.equal("calm", 70, net.journey(0, 0, 3));
        net.rate(0, 7, 300);
        CHECKS.equal("calm, whatever the percent", 70, net.journey(0, 0, 3));
    }

    /** "from", "to: the last minute": both are exempt, the one ahead and the one behind are not. */
    private static void exemptFromBothMinutes() {
        for (int minute = 198; minute <= 207; minute++) {
            Tollweave net = oneRoad();
            net.read(0, 0, minute);
            net.read(1, 0, minute + 10);
            net.exempt(0, 200, 205);
            boolean isExempt = minute >= 200 && minute <= 205;
            CHECKS.equal("fare from " + minute, isExempt ? 0 : 100, net.journey(0, 0, 3));
            CHECKS.equal("share from " + minute, isExempt ? 0 : 100, net.share(0, true));
            CHECKS.equal("counting, exempt or not", 2, net.journey(0, 0, 2));
        }
        for (int minute = 199; minute <= 201; minute++) {
            Tollweave net = oneRoad();
            net.read(0, 0, minute);
            net.read(1, 0, minute + 10);
            net.exempt(0, 200, 200);
            CHECKS.equal("a span of one minute", minute == 200 ? 0 : 100, net.due(0));
        }
    }

    /** "nothing, if the plate is exempt in the minute of the former reading" */
    private static void exemptInTheFormer() {
        Tollweave net = oneRoad();
        net.read(0, 0, 100);
        net.read(1, 0, 110);
        net.read(0, 0, 120);
        net.exempt(0, 101, 109);
        CHECKS.equal("between the readings", 200, net.due(0));
        net.exempt(0, 120, 120);
        CHECKS.equal("in the last reading", 200, net.due(0));
        net.exempt(0, 110, 110);
        CHECKS.equal("in the second: the leg from there", 100, net.due(0));
        net.exempt(0, 100, 100);
        CHECKS.equal("in the first, too", 0, net.due(0));
        CHECKS.equal("a journey still", 3, net.journey(0, 0, 2));
        CHECKS.equal("over still", 1, net.journey(0, 0, 4));
    }

    private static void exemptBehindADouble() {
        Tollweave net = oneRoad();
        net.read(0, 0, 100);
        net.read(0, 0, 103);
        net.read(1, 0, 113);
        net.exempt(0, 103, 103);
        CHECKS.equal("the minute of a DOUBLE", 100, net.due(0));
        net.exempt(0, 100, 100);
        CHECKS.equal("the minute of the one that counts", 0, net.due(0));
    }

    private static void exemptAtFirstAndLastMinutes() {
        Tollweave net = oneRoad();
        net.read(0, 0, 0);
        net.read(1, 0, 10);
        net.exempt(0, 0, 0);
        CHECKS.equal("the minute 0", 0, net.journey(0, 0, 3));
        net.read(0, 1, 99990);
        net.read(1, 1, 100000);
        CHECKS.equal("up to the last minute", 100, net.journey(1, 0, 3));
        net.exempt(1, 99991, 100000);
        CHECKS.equal("from the next minute on", 100, net.journey(1, 0, 3));
        net.exempt(1, 99990, 100000);
        CHECKS.equal("from that minute on", 0, net.journey(1, 0, 3));
        net.read(0, 2, 5000);
        net.read(1, 2, 5010);
        net.exempt(2, 0, 100000);
        CHECKS.equal("all minutes", 0, net.journey(2, 0, 3));
    }

    /** "besides those of before": the first of 20 spans stands. */
    private static void exemptBesidesThoseOfBefore() {
        Tollweave net = oneRoad();
        for (int leg = 0; leg < 20; leg++) {
            net.read(leg % 2, 0, 100 + 10 * leg);
        }
        CHECKS.equal("19 legs", 1900, net.due(0));
        for (int leg = 0; leg < 19; leg++) {
            CHECKS.equal("spans", leg + 1, net.exempt(0, 100 + 10 * leg, 100 + 10 * leg));
            CHECKS.equal("legs that are left", 100 * (18 - leg), net.due(0));
        }
        CHECKS.equal("a span inside another one", 20, net.exempt(0, 100, 100));
        CHECKS.equal("none is left", 0, net.due(0));
    }

    private static void exemptOnlyThePlate() {
        for (int exempt = 0; exempt < 10; exempt++) {
            Tollweave net = oneRoad();
            for (int plate = 0; plate < 10; plate++) {
                net.read(0, plate, 100);
                net.read(1, plate, 110);
            }
            net.exempt(exempt, 100, 100);
            for (int plate = 0; plate < 10; plate++) {
                CHECKS.equal("fare", plate == exempt ? 0 : 100, net.due(plate));
            }
            CHECKS.equal("share", 900, net.share(0, true));
        }
    }

    /** "but at most the most, 5000 cents at first" */
    private static void atMostTheMost() {
        for (int length = 49; length <= 50; length++) {
            Tollweave net = Checks.withGates(2);
            net.road(0, 1, length, 1);
            lastMinute(net);
            net.rate(0, 100, 150);
            net.read(0, 0, 0);
            net.read(1, 0, 50);
            CHECKS.equal("up to 5000", 100 * length, net.journey(0, 0, 3));
            net.rate(0, 100, 103);
            net.read(0, 1, 420);
            net.read(1, 1, 470);
            CHECKS.equal("5047 and 5150", 5000, net.journey(1, 0, 3));
            CHECKS.equal("the share", 5000, net.journey(1, 0, 6));
        }
        Tollweave net = oneRoad();
        net.read(0, 0, 100);
        net.read(1, 0, 110);
        int[] mosts = {0, 1, 98, 99, 100, 101, 102, 100000};
        for (int most : mosts) {
            net.most(most);
            CHECKS.equal("a fare of 100 with the most " + most, Math.min(100, most),
                    net.journey(0, 0, 3));
            CHECKS.equal("due", Math.min(100, most), net.due(0));
            CHECKS.equal("share", Math.min(100, most), net.journey(0, 0, 5));
            CHECKS.equal("share due", Math.min(100, most), net.share(0, true));
        }
    }

    /** The most is that of one journey, not of a plate, nor of one leg. */
    private static void mostOfEachJourney() {
        Tollweave net = oneRoad();
        for (int journey = 0; journey < 3; journey++) {
            net.read(0, 0, 100 + 200 * journey);
            net.read(1, 0, 110 + 200 * journey);
            net.read(0, 0, 120 + 200 * journey);
        }
        net.most(199);
        CHECKS.equal("due of three journeys", 3 * 199, net.due(0));
        net.most(150);
        CHECKS.equal("due of three cut ones", 450, net.due(0));
        CHECKS.equal("share of three cut ones", 450, net.share(0, true));
    }

    /** Roads of the four owners with what is to be paid for them, gone as one leg. */
    private static Tollweave owners(int... lengths) {
        Tollweave net = Checks.withGates(5);
        for (int owner = 0; owner < 4; owner++) {
            net.road(owner, owner + 1, lengths[owner], owner);
        }
        net.rate(0, 1, 100);
        net.pass(1000);
        net.read(0, 0, 0);
        net.read(4, 0, net.distance(0, 4));
        return net;
    }

    private static void shares(Tollweave net, int most, int... due) {
        net.most(most);
        CHECKS.equal("fare", Arrays.stream(due).sum(), net.journey(0, 0, 3));
        for (int owner = 0; owner < 4; owner++) {
            CHECKS.equal("share of " + owner + " of " + most, due[owner],
                    net.journey(0, 0, 5 + owner));
            CHECKS.equal("due to " + owner + " of " + most, due[owner], net.share(owner, true));
        }
    }

    /** "if that is more than the most": just the most is not cut. */
    private static void sharesUpToTheMost() {
        Tollweave net = owners(1, 2, 3, 4);
        shares(net, 100000, 1, 2, 3, 4);
        shares(net, 11, 1, 2, 3, 4);
        shares(net, 10, 1, 2, 3, 4);
        shares(net, 9, 0, 1, 2, 6);
    }

    /** "that times the most, divided by all of it, rounded down" */
    private static void sharesRoundedDown() {
        Tollweave net = owners(19, 20, 21, 40);
        shares(net, 50, 9, 10, 10, 21);
        shares(net, 99, 18, 19, 20, 42);
        shares(net, 5, 0, 1, 1, 3);
        shares(net, 4, 0, 0, 0, 4);
        shares(net, 1, 0, 0, 0, 1);
        shares(net, 0, 0, 0, 0, 0);
    }

    /** "the owner for whose roads the most is to be paid ... has what is left besides" */
    private static void whatIsLeft() {
        shares(owners(50, 1, 1, 1), 52, 52, 0, 0, 0);
        shares(owners(1, 50, 1, 1), 52, 0, 52, 0, 0);
        shares(owners(1, 1, 50, 1), 52, 0, 0, 52, 0);
        shares(owners(1, 1, 1, 50), 52, 0, 0, 0, 52);
        shares(owners(2, 1, 1, 1), 4, 4, 0, 0, 0);
    }

    /** "of several the lowest" */
    private static void lowestOfSeveral() {
        shares(owners(5, 5, 5, 5), 19, 7, 4, 4, 4);
        shares(owners(4, 5, 5, 5), 18, 3, 7, 4, 4);
        shares(owners(4, 4, 5, 5), 17, 3, 3, 7, 4);
        shares(owners(4, 4, 4, 5), 16, 3, 3, 3, 7);
        shares(owners(5, 4, 4, 5), 17, 7, 3, 3, 4);
        shares(owners(1, 5, 1, 5), 11, 0, 7, 0, 4);
        shares(owners(5, 6, 5, 5), 20, 4, 8, 4, 4);
    }

    /** Nothing is to be paid: no share, and no machine that divides by 0. */
    private static void sharesOfNothing() {
        Tollweave net = owners(5, 5, 5, 5);
        net.rate(0, 0, 300);
        shares(net, 0, 0, 0, 0, 0);
        shares(net, 100, 0, 0, 0, 0);
        Tollweave lone = Checks.withGates(1);
        lone.read(0, 0, 0);
        lone.most(0);
        for (int what = 3; what <= 8; what++) {
            CHECKS.equal("a journey of one reading", 0, lone.journey(0, 0, what));
        }
    }

    /** Promise 16 tells fares and shares of a journey that is not over, too. */
    private static void notOverHasAFare() {
        Tollweave net = Checks.withGates(2);
        net.road(0, 1, 10, 3);
        net.pass(69);
        net.read(0, 0, 0);
        net.read(1, 0, 10);
        CHECKS.equal("not over", 0, net.journey(0, 0, 4));
        CHECKS.equal("its fare", 100, net.journey(0, 0, 3));
        CHECKS.equal("its share", 100, net.journey(0, 0, 8));
        CHECKS.equal("not due", 0, net.due(0));
        CHECKS.equal("not due to the owner", 0, net.share(3, true));
        net.pass(1);
        CHECKS.equal("over", 1, net.journey(0, 0, 4));
        CHECKS.equal("due", 100, net.due(0));
        CHECKS.equal("due to the owner", 100, net.share(3, true));
    }
}
