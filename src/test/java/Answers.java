import java.util.ArrayList;
import java.util.List;

/**
 * All that an object answers: to what can be asked, and to calls that change it. An object is good
 * for 512 calls, so the calls are spread over several objects, made alike.
 */
final class Answers {
    interface Maker {
        Tollweave make();
    }

    private interface Ask {
        long of(Tollweave net);
    }

    private static final int CALLS_OF_ONE = 250;
    private static final List<Ask> ASKS = asks();

    private Answers() {
    }

    static List<String> of(Maker maker) {
        List<String> told = new ArrayList<>();
        Tollweave net = null;
        for (int ask = 0; ask < ASKS.size(); ask++) {
            if (ask % CALLS_OF_ONE == 0) {
                net = maker.make();
            }
            told.add(answer(net, ASKS.get(ask)));
        }
        for (List<Ask> changes : changes()) {
            Tollweave changed = maker.make();
            for (Ask change : changes) {
                told.add(answer(changed, change));
            }
        }
        return told;
    }

    private static String answer(Tollweave net, Ask ask) {
        try {
            return String.valueOf(ask.of(net));
        } catch (RuntimeException e) {
            return e.getClass().getSimpleName();
        }
    }

    private static List<Ask> asks() {
        List<Ask> asks = new ArrayList<>();
        for (int gate = 0; gate <= 12; gate++) {
            int one = gate;
            for (int end = 0; end <= 12; end++) {
                int other = end;
                asks.add(net -> net.distance(one, other));
                for (int at = 0; at < 4; at++) {
                    int place = at;
                    asks.add(net -> net.way(one, other, place));
                }
            }
        }
        for (int number = 0; number <= 100; number++) {
            int reading = number;
            for (int of = 0; of <= 5; of++) {
                int what = of;
                asks.add(net -> net.ofReading(reading, what));
            }
        }
        for (int number = 0; number < 10; number++) {
            askPlate(asks, number);
        }
        askSums(asks);
        return asks;
    }

    private static void askPlate(List<Ask> asks, int plate) {
        asks.add(net -> net.journeys(plate));
        for (int number = 0; number <= 10; number++) {
            int journey = number;
            for (int of = 0; of <= 8; of++) {
                int what = of;
                asks.add(net -> net.journey(plate, journey, what));
            }
        }
        asks.add(net -> net.due(plate));
        asks.add(net -> net.billed(plate));
        asks.add(net -> net.own(plate));
    }

    private static void askSums(List<Ask> asks) {
        for (int number = 0; number < 6; number++) {
            int holder = number;
            asks.add(net -> net.wallet(holder));
        }
        for (int number = 0; number < 4; number++) {
            int owner = number;
            asks.add(net -> net.share(owner, false));
            asks.add(net -> net.share(owner, true));
        }
    }

    /** What is hidden, such as rates, holders, counts and now, is told by calls that change. */
    private static List<List<Ask>> changes() {
        List<Ask> counts = new ArrayList<>();
        counts.add(net -> net.most(77));
        counts.add(Tollweave::gate);
        counts.add(net -> net.road(0, 1, 1, 0));
        counts.add(net -> net.exempt(0, 0, 0));
        counts.add(net -> net.read(0, 0, 0));
        counts.add(net -> net.pass(1));
        List<Ask> rates = new ArrayList<>();
        for (int number = 0; number < 3; number++) {
            int kind = number;
            for (int plate = 0; plate < 10; plate++) {
                int changed = plate;
                rates.add(net -> {
                    net.plate(changed, kind, kind);
                    return net.due(changed);
                });
            }
        }
        List<Ask> holders = new ArrayList<>();
        holders.add(Tollweave::bill);
        askSums(holders);
        for (int number = 0; number < 10; number++) {
            int plate = number;
            holders.add(net -> net.billed(plate));
            holders.add(net -> net.own(plate));
        }
        return List.of(counts, rates, holders);
    }

    /** An object with all the gates, roads, spans, readings and minutes that it can have. */
    static Tollweave fullNetwork() {
        Tollweave net = Checks.withGates(12);
        for (int road = 0; road < 24; road++) {
            net.road(road % 12, (road + 1 + road / 12) % 12, 1 + road * 7 % 50, road % 4);
        }
        for (int day = 0; day < 69; day++) {
            net.pass(1440);
        }
        net.pass(640);
        net.rate(1, 20, 200);
        for (int span = 0; span < 20; span++) {
            net.exempt(span % 10, 1000 * span, 1000 * span + 100);
        }
        for (int plate = 0; plate < 6; plate++) {
            net.plate(plate, plate % 3, plate - 1);
        }
        for (int reading = 0; reading < 100; reading++) {
            int plate = reading % 10;
            int minute = 1000 * plate + reading / 10 * (20 + plate);
            net.read(reading * 5 % 12, plate, reading == 99 ? 100000 : minute);
        }
        return net;
    }
}
