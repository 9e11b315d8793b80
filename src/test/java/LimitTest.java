/** The empty object and the full one, and what the last number and the first too many do. */
public final class LimitTest {
    private static final Checks CHECKS = new Checks("LimitTest");
    private static final int LAST_MINUTE = 100000;

    public static void main(String[] args) {
        emptyBuilds();
        emptyRefuses();
        emptyAnswers();
        emptyRates();
        emptyPlates();
        emptyNow();
        oneGate();
        twelveGates();
        twentyFourRoads();
        twentySpans();
        hundredReadings();
        lastMinute();
        fullObject();
        fullJourney();
        call512();
        CHECKS.end();
    }

    /** The numbers that each call gives first, each of an object of its own. */
    private static void emptyBuilds() {
        CHECKS.equal("the first gate", 0, new Tollweave().gate());
        CHECKS.equal("the first road", 0, Checks.withGates(2).road(0, 1, 1, 0));
        CHECKS.equal("the first span", 1, new Tollweave().exempt(0, 0, 0));
        CHECKS.equal("the first reading", 0, Checks.withGates(1).read(0, 0, 0));
        CHECKS.equal("the first top", 5, new Tollweave().top(0, 5));
        CHECKS.equal("the first most", 5000, new Tollweave().most(0));
        CHECKS.equal("the first pass", 5, new Tollweave().pass(5));
        CHECKS.equal("the first bill", 0, new Tollweave().bill());
    }

    /** Without gates there is no gate, no road, no reading and no journey. */
    private static void emptyRefuses() {
        Tollweave net = new Tollweave();
        CHECKS.noIndex("road", () -> net.road(0, 1, 1, 0));
        CHECKS.noIndex("read", () -> net.read(0, 0, 0));
        CHECKS.noIndex("strike", () -> net.strike(0));
        CHECKS.noIndex("distance", () -> net.distance(0, 0));
        CHECKS.noIndex("way", () -> net.way(0, 0, 0));
        CHECKS.noIndex("ofReading", () -> net.ofReading(0, 0));
        for (int plate = 0; plate < 10; plate++) {
            int number = plate;
            CHECKS.noIndex("journey", () -> net.journey(number, 0, 0));
        }
    }

    private static void emptyAnswers() {
        Tollweave net = new Tollweave();
        for (int round = 0; round < 2; round++) {
            for (int plate = 0; plate < 10; plate++) {
                CHECKS.equal("journeys", 0, net.journeys(plate));
                CHECKS.equal("due", 0, net.due(plate));
                CHECKS.equal("billed", 0, net.billed(plate));
                CHECKS.equal("own", 0, net.own(plate));
            }
            for (int holder = 0; holder < 6; holder++) {
                CHECKS.equal("wallet", 0, net.wallet(holder));
            }
            for (int owner = 0; owner < 4; owner++) {
                CHECKS.equal("share got", 0, net.share(owner, false));
                CHECKS.equal("share due", 0, net.share(owner, true));
            }
            CHECKS.equal("bill", 0, net.bill());
        }
    }

    /** A rate of 10 and a busy percent of 150 at first, for each class. */
    private static void emptyRates() {
        for (int kind = 0; kind < 3; kind++) {
            Tollweave net = Checks.withGates(2);
            net.road(0, 1, 10, 0);
            net.pass(1000);
            net.plate(0, kind, 0);
            net.read(0, 0, 0);
            net.read(1, 0, 10);
            net.plate(1, kind, 0);
            net.read(0, 1, 420);
            net.read(1, 1, 430);
            CHECKS.equal("the rate at first of class " + kind, 100, net.due(0));
            CHECKS.equal("the busy percent at first of class " + kind, 150, net.due(1));
        }
    }

    /** A plate is of class 0 and without a holder at first. */
    private static void emptyPlates() {
        for (int plate = 0; plate < 10; plate++) {
            Tollweave net = Checks.withGates(2);
            net.road(0, 1, 10, 0);
            net.rate(1, 20, 150);
            net.rate(2, 30, 150);
            net.pass(100);
            net.read(0, plate, 0);
            net.read(1, plate, 10);
            CHECKS.equal("the class at first of plate " + plate, 100, net.due(plate));
            CHECKS.equal("bill", 100, net.bill());
            CHECKS.equal("no holder at first of plate " + plate, -100, net.own(plate));
            for (int holder = 0; holder < 6; holder++) {
                CHECKS.equal("wallet", 0, net.wallet(holder));
            }
        }
    }

    private static void emptyNow() {
        Tollweave net = Checks.withGates(1);
        CHECKS.noArgument("the minute 1", () -> net.read(0, 0, 1));
        CHECKS.equal("the minute 0", 0, net.read(0, 0, 0));
        CHECKS.equal("its first minute", 0, net.journey(0, 0, 0));
        CHECKS.equal("not over at 0", 0, net.journey(0, 0, 4));
        CHECKS.equal("a pass from 0 on", 1440, net.pass(1440));
    }

    private static void oneGate() {
        Tollweave net = Checks.withGates(1);
        CHECKS.equal("distance", 0, net.distance(0, 0));
        CHECKS.equal("way", Tollweave.NONE, net.way(0, 0, 0));
        CHECKS.noArgument("road from it to itself", () -> net.road(0, 0, 1, 0));
        CHECKS.noIndex("road to no gate", () -> net.road(0, 1, 1, 0));
        CHECKS.noIndex("read at no gate", () -> net.read(1, 0, 0));
    }

    /** Promise 2: the gate 11 is the last. */
    private static void twelveGates() {
        Tollweave net = Checks.withGates(11);
        CHECKS.noIndex("the gate 11 ahead of being built", () -> net.read(11, 0, 0));
        CHECKS.equal("the last gate", 11, net.gate());
        CHECKS.equal("it is read", 0, net.read(11, 0, 0));
        CHECKS.equal("it has roads", 0, net.road(11, 0, 1, 0));
        for (int time = 0; time < 3; time++) {
            CHECKS.noState("a gate too many", net::gate);
        }
        CHECKS.noIndex("the gate 12 is not read", () -> net.read(12, 0, 0));
        CHECKS.noIndex("the gate 12 has no roads", () -> net.road(12, 0, 1, 0));
        CHECKS.noIndex("the gate 12 has no distance", () -> net.distance(0, 12));
    }

    /** Promise 3: the road 23 is the last, and all of them are gone. */
    private static void twentyFourRoads() {
        Tollweave net = Checks.withGates(3);
        for (int road = 0; road < 23; road++) {
            CHECKS.equal("road", road, net.road(0, 1, 26 - road, 0));
        }
        CHECKS.equal("the last road", 23, net.road(1, 2, 7, 3));
        for (int time = 0; time < 3; time++) {
            CHECKS.noState("a road too many", () -> net.road(0, 2, 1, 0));
        }
        CHECKS.equal("the distance without it", 4 + 7, net.distance(0, 2));
        CHECKS.equal("the way by the road 22", 22, net.way(0, 2, 0));
        CHECKS.equal("the way by the road 23", 23, net.way(0, 2, 1));
        CHECKS.equal("the end of the way", Tollweave.NONE, net.way(0, 2, 2));
        net.pass(100);
        net.read(0, 0, 0);
        net.read(2, 0, 20);
        CHECKS.equal("the share of the last road", 70, net.share(3, true));
    }

    /** Promise 8: 20 spans of all plates together, however they are spread. */
    private static void twentySpans() {
        for (int plates = 1; plates <= 10; plates++) {
            Tollweave net = Checks.withGates(2);
            net.road(0, 1, 10, 0);
            net.pass(300);
            net.read(0, 9, 199);
            net.read(1, 9, 209);
            for (int span = 1; span < 20; span++) {
                CHECKS.equal("span", span, net.exempt(span % plates, 0, 10));
            }
            CHECKS.equal("due ahead of the last span", 100, net.due(9));
            CHECKS.equal("the last span", 20, net.exempt(9, 199, 199));
            CHECKS.equal("it exempts", 0, net.due(9));
            for (int plate = 0; plate < 10; plate++) {
                int number = plate;
                CHECKS.noState("a span too many", () -> net.exempt(number, 0, LAST_MINUTE));
            }
            CHECKS.equal("due as it was", 0, net.due(9));
        }
    }

    /** Promise 9: 100 readings of all plates together, struck or not, DOUBLE or not. */
    private static void hundredReadings() {
        for (int plates = 1; plates <= 10; plates += 3) {
            Tollweave net = Checks.withGates(2);
            net.pass(1440);
            for (int reading = 0; reading < 99; reading++) {
                CHECKS.equal("reading", reading, net.read(0, reading % plates, 14 * reading));
            }
            CHECKS.noIndex("the reading 99 ahead of being read", () -> net.ofReading(99, 0));
            CHECKS.equal("the last reading", 99, net.read(1, 9, 1440));
            CHECKS.equal("its minute", 1440, net.ofReading(99, 2));
            CHECKS.equal("its gate", 1, net.ofReading(99, 0));
            CHECKS.noIndex("the reading 100", () -> net.ofReading(100, 0));
            CHECKS.noState("a reading too many", () -> net.read(0, 0, 0));
            net.strike(99);
            net.strike(0);
            CHECKS.noState("a strike makes no room", () -> net.read(0, 0, 0));
            CHECKS.noIndex("no reading 100 is struck", () -> net.strike(100));
            CHECKS.noState("a strike of the last again", () -> net.strike(99));
        }
        Tollweave doubles = Checks.withGates(1);
        for (int reading = 0; reading < 100; reading++) {
            doubles.read(0, 4, 0);
        }
        CHECKS.noState("a DOUBLE too many", () -> doubles.read(0, 4, 0));
        CHECKS.equal("one journey", 1, doubles.journeys(4));
        CHECKS.equal("one reading counts", 1, doubles.journey(4, 0, 2));
        CHECKS.equal("the first is no DOUBLE", 0, doubles.ofReading(0, 4));
        CHECKS.equal("the last is a DOUBLE", 1, doubles.ofReading(99, 4));
        CHECKS.equal("of the first journey", 0, doubles.ofReading(99, 5));
    }

    /** Minutes 99360 after 69 days. */
    private static Tollweave after69Days() {
        Tollweave net = Checks.withGates(2);
        for (int day = 1; day <= 69; day++) {
            net.pass(1440);
        }
        return net;
    }

    /** Promise 11: now may be 100000, not 100001. */
    private static void lastMinute() {
        Tollweave net = after69Days();
        CHECKS.noState("one minute too many at once", () -> net.pass(641));
        CHECKS.noState("the greatest pass", () -> net.pass(1440));
        CHECKS.equal("one minute less than can be", 99999, net.pass(639));
        CHECKS.noState("two minutes too many", () -> net.pass(2));
        CHECKS.noArgument("not yet the last minute", () -> net.read(0, 0, LAST_MINUTE));
        CHECKS.equal("the last minute", LAST_MINUTE, net.pass(1));
        CHECKS.noState("a minute behind the last", () -> net.pass(1));
        CHECKS.noArgument("a reading behind the last", () -> net.read(0, 0, LAST_MINUTE + 1));
        CHECKS.equal("a reading in the last", 0, net.read(0, 0, LAST_MINUTE));
        CHECKS.equal("its minute", LAST_MINUTE, net.ofReading(0, 2));
        CHECKS.equal("the first minute of its journey", LAST_MINUTE, net.journey(0, 0, 0));
        CHECKS.equal("at once", LAST_MINUTE, after69Days().pass(640));
    }

    /** With all that it can have, an object still takes what is not full. */
    private static void fullObject() {
        Tollweave net = Answers.fullNetwork();
        CHECKS.noState("gate", net::gate);
        CHECKS.noState("road", () -> net.road(0, 1, 1, 0));
        CHECKS.noState("exempt", () -> net.exempt(0, 0, 0));
        CHECKS.noState("read", () -> net.read(0, 0, 0));
        CHECKS.noState("pass", () -> net.pass(1));
        CHECKS.passes("rate", () -> net.rate(0, 20, 20));
        CHECKS.equal("most", 5000, net.most(400));
        CHECKS.passes("plate", () -> net.plate(0, 1, 1));
        CHECKS.equal("top", 100000, net.top(1, 100000));
        CHECKS.passes("strike", () -> net.strike(99));
        CHECKS.passes("bill", net::bill);
        for (int plate = 0; plate < 10; plate++) {
            CHECKS.equal("what is due was billed", net.due(plate), net.billed(plate));
        }
        for (int owner = 0; owner < 4; owner++) {
            CHECKS.equal("due was got", net.share(owner, true), net.share(owner, false));
        }
    }

    /** 100 readings of one journey, each leg by 11 roads of the length 50, in busy hours. */
    private static Tollweave longestJourney() {
        Tollweave net = Checks.withGates(12);
        for (int gate = 0; gate < 11; gate++) {
            net.road(gate, gate + 1, 50, gate == 5 ? 3 : 2);
        }
        for (int day = 0; day < 51; day++) {
            net.pass(1440);
        }
        net.rate(2, 100, 300);
        net.plate(9, 2, 5);
        for (int reading = 0; reading < 100; reading++) {
            int minute = reading / 2 * 1440 + (reading % 2 == 0 ? 420 : 970);
            net.read(reading % 2 * 11, 9, minute);
        }
        return net;
    }

    /** The greatest fare: what is to be paid times the most is far above an int. */
    private static void fullJourney() {
        Tollweave net = longestJourney();
        long owner3 = 99L * 15000;
        long whole = 11 * owner3;
        CHECKS.equal("one journey", 1, net.journeys(9));
        CHECKS.equal("all readings count", 100, net.journey(9, 0, 2));
        CHECKS.equal("its fare", 5000, net.journey(9, 0, 3));
        CHECKS.equal("the smaller share", owner3 * 5000 / whole, net.journey(9, 0, 8));
        CHECKS.equal("the greater share", 5000 - owner3 * 5000 / whole, net.journey(9, 0, 7));
        net.most(100000);
        CHECKS.equal("the greatest fare", 100000, net.journey(9, 0, 3));
        CHECKS.equal("the smaller share", owner3 * 100000 / whole, net.journey(9, 0, 8));
        CHECKS.equal("the greater share", 100000 - owner3 * 100000 / whole,
                net.journey(9, 0, 7));
        CHECKS.equal("no share of owner 0", 0, net.journey(9, 0, 5));
        CHECKS.equal("bill", 100000, net.bill());
        CHECKS.equal("the wallet", -100000, net.wallet(5));
        CHECKS.equal("billed", 100000, net.billed(9));
    }

    /** An object is used for 512 calls: the last of them answers like the first. */
    private static void call512() {
        Tollweave net = new Tollweave();
        for (int call = 1; call <= 511; call++) {
            net.top(0, 100000);
        }
        CHECKS.equal("call 512", 512L * 100000, net.top(0, 100000));
        Tollweave refused = new Tollweave();
        for (int call = 1; call <= 511; call++) {
            CHECKS.noIndex("refused", () -> refused.distance(0, 0));
        }
        CHECKS.equal("call 512 behind 511 refused ones", 0, refused.gate());
    }
}
