/** The sentences of 'Roads' in the document, one by one, at their edges. */
public final class RoadEdgeTest {
    private static final Checks CHECKS = new Checks("RoadEdgeTest");

    public static void main(String[] args) {
        bothWays();
        lengths();
        owners();
        leastSum();
        roadsBesideEachOther();
        zeroToItself();
        withoutWay();
        lowestRoad();
        onlyRoadsOfShortestWays();
        fromEachGateOn();
        places();
        longestWay();
        CHECKS.end();
    }

    /** "a road joins two gates, both ways" */
    private static void bothWays() {
        Tollweave net = Checks.withGates(3);
        net.road(2, 0, 9, 0);
        CHECKS.equal("distance from other to one", 9, net.distance(0, 2));
        CHECKS.equal("distance from one to other", 9, net.distance(2, 0));
        CHECKS.equal("way from other to one", 0, net.way(0, 2, 0));
        CHECKS.equal("way from one to other", 0, net.way(2, 0, 0));
        CHECKS.equal("no other gate", -1, net.distance(1, 0));
        CHECKS.equal("nor back", -1, net.distance(0, 1));
    }

    /** "length: 1 to 50": each of them is that long. */
    private static void lengths() {
        for (int length = 1; length <= 50; length++) {
            Tollweave net = Checks.withGates(2);
            net.road(0, 1, length, 0);
            CHECKS.equal("distance by length", length, net.distance(0, 1));
        }
    }

    /** "an owner, 0 to 3": it is the one that has the share, and no other. */
    private static void owners() {
        for (int owner = 0; owner < 4; owner++) {
            Tollweave net = Checks.withGates(2);
            net.road(0, 1, 10, owner);
            net.pass(100);
            net.read(0, 0, 0);
            net.read(1, 0, 10);
            net.bill();
            for (int each = 0; each < 4; each++) {
                long due = each == owner ? 100 : 0;
                CHECKS.equal("share of the journey", due, net.journey(0, 0, 5 + each));
                CHECKS.equal("share due", due, net.share(each, true));
                CHECKS.equal("share got", due, net.share(each, false));
            }
        }
    }

    /** "the least sum of lengths of roads": a way round that is less, as long, or more. */
    private static void leastSum() {
        for (int length = 1; length <= 50; length++) {
            Tollweave net = Checks.withGates(4);
            net.road(0, 3, 20, 0);
            net.road(0, 1, 5, 0);
            net.road(1, 2, length, 0);
            net.road(2, 3, 5, 0);
            int round = 10 + length;
            CHECKS.equal("the least of both", Math.min(20, round), net.distance(0, 3));
            CHECKS.equal("and back", Math.min(20, round), net.distance(3, 0));
            CHECKS.equal("inside", Math.min(length, 30), net.distance(1, 2));
            CHECKS.equal("the first road", round < 20 ? 1 : 0, net.way(0, 3, 0));
        }
    }

    private static void roadsBesideEachOther() {
        Tollweave net = Checks.withGates(2);
        net.road(0, 1, 7, 0);
        net.road(1, 0, 7, 1);
        CHECKS.equal("of two of one length the lowest", 0, net.way(0, 1, 0));
        CHECKS.equal("back too", 0, net.way(1, 0, 0));
        net.road(0, 1, 8, 2);
        CHECKS.equal("a longer one changes nothing", 7, net.distance(0, 1));
        net.road(1, 0, 6, 3);
        CHECKS.equal("a shorter one", 6, net.distance(0, 1));
        CHECKS.equal("is gone", 3, net.way(0, 1, 0));
        CHECKS.equal("both ways", 3, net.way(1, 0, 0));
    }

    /** "0 from a gate to itself": without roads, with roads, and in a full net. */
    private static void zeroToItself() {
        Tollweave net = Checks.withGates(12);
        for (int gate = 0; gate < 12; gate++) {
            CHECKS.equal("without roads", 0, net.distance(gate, gate));
            CHECKS.equal("no way to itself", -1, net.way(gate, gate, 0));
        }
        for (int road = 0; road < 24; road++) {
            net.road(road % 12, (road + 1) % 12, 1, 0);
        }
        for (int gate = 0; gate < 12; gate++) {
            CHECKS.equal("with roads", 0, net.distance(gate, gate));
            CHECKS.equal("no way to itself", -1, net.way(gate, gate, 0));
            CHECKS.equal("at any place", -1, net.way(gate, gate, Integer.MAX_VALUE));
        }
    }

    /** "NONE, if there is no way" */
    private static void withoutWay() {
        Tollweave net = Checks.withGates(4);
        net.road(0, 1, 50, 0);
        net.road(2, 3, 50, 0);
        for (int one = 0; one < 2; one++) {
            for (int other = 2; other < 4; other++) {
                CHECKS.equal("no distance", Tollweave.NONE, net.distance(one, other));
                CHECKS.equal("nor back", Tollweave.NONE, net.distance(other, one));
                CHECKS.equal("no way", Tollweave.NONE, net.way(one, other, 0));
                CHECKS.equal("nor back", Tollweave.NONE, net.way(other, one, 0));
                CHECKS.equal("nor far on", Tollweave.NONE, net.way(other, one, 1));
            }
        }
        net.road(3, 0, 1, 0);
        CHECKS.equal("joined", 101, net.distance(1, 2));
        CHECKS.equal("and back", 101, net.distance(2, 1));
        CHECKS.equal("a gate built later is apart", 4, net.gate());
        CHECKS.equal("from it", Tollweave.NONE, net.distance(4, 0));
        CHECKS.equal("to it", Tollweave.NONE, net.distance(3, 4));
    }

    /** "by the lowest road that leads to a gate whose distance ... is less by its length" */
    private static void lowestRoad() {
        for (int lowest = 0; lowest < 3; lowest++) {
            Tollweave net = Checks.withGates(5);
            for (int road = 0; road < 3; road++) {
                net.road(0, 1 + (road + 3 - lowest) % 3, 10, 0);
            }
            for (int gate = 3; gate >= 1; gate--) {
                net.road(gate, 4, 10, 0);
            }
            CHECKS.equal("distance", 20, net.distance(0, 4));
            CHECKS.equal("the lowest of three", 0, net.way(0, 4, 0));
            int by = 1 + (3 - lowest) % 3;
            CHECKS.equal("and on from its end", 3 + 3 - by, net.way(0, 4, 1));
            CHECKS.equal("the lowest of three back", 3, net.way(4, 0, 0));
            CHECKS.equal("and on back", lowest == 0 ? 2 : lowest - 1, net.way(4, 0, 1));
        }
    }

    /** A lower road that leads nearer to the goal, but too long, is not gone. */
    private static void onlyRoadsOfShortestWays() {
        Tollweave net = Checks.withGates(3);
        net.road(0, 2, 11, 0);
        net.road(0, 1, 6, 0);
        net.road(0, 1, 5, 0);
        net.road(1, 2, 6, 0);
        net.road(1, 2, 5, 0);
        CHECKS.equal("distance", 10, net.distance(0, 2));
        CHECKS.equal("the road of 5", 2, net.way(0, 2, 0));
        CHECKS.equal("and that of 5", 4, net.way(0, 2, 1));
        CHECKS.equal("back, that of 5", 4, net.way(2, 0, 0));
        CHECKS.equal("and the road of 5", 2, net.way(2, 0, 1));
        net.road(2, 0, 10, 0);
        CHECKS.equal("a higher road as short", 2, net.way(0, 2, 0));
        net.road(2, 0, 9, 0);
        CHECKS.equal("a higher road that is shorter", 6, net.way(0, 2, 0));
    }

    /** "from each gate on": the lowest road is asked for anew at each gate. */
    private static void fromEachGateOn() {
        Tollweave net = Checks.withGates(4);
        net.road(2, 3, 3, 0);
        net.road(1, 3, 4, 0);
        net.road(1, 2, 1, 0);
        net.road(0, 1, 2, 0);
        net.road(0, 2, 3, 0);
        CHECKS.equal("distance", 6, net.distance(0, 3));
        CHECKS.equal("first", 3, net.way(0, 3, 0));
        CHECKS.equal("from 1 on", 1, net.way(0, 3, 1));
        CHECKS.equal("the end", -1, net.way(0, 3, 2));
        CHECKS.equal("back from 3", 0, net.way(3, 0, 0));
        CHECKS.equal("back from 2, first by 1", 2, net.way(3, 0, 1));
        CHECKS.equal("back from 1", 3, net.way(3, 0, 2));
        CHECKS.equal("the end back", -1, net.way(3, 0, 3));
    }

    /** "the road; NONE, if there are not so many" */
    private static void places() {
        Tollweave net = Checks.withGates(3);
        net.road(0, 1, 1, 0);
        net.road(1, 2, 1, 0);
        CHECKS.equal("the last", 1, net.way(0, 2, 1));
        CHECKS.equal("behind the last", -1, net.way(0, 2, 2));
        CHECKS.equal("far behind", -1, net.way(0, 2, 24));
        CHECKS.equal("the farthest", -1, net.way(0, 2, Integer.MAX_VALUE));
        CHECKS.equal("a way of one road", 1, net.way(1, 2, 0));
        CHECKS.equal("behind it", -1, net.way(1, 2, 1));
        CHECKS.noIndex("ahead of the first", () -> net.way(0, 2, -1));
        CHECKS.noIndex("without a way too", () -> net.way(1, 1, -1));
    }

    /** 11 roads through all 12 gates, the greatest distance, in each order of building. */
    private static void longestWay() {
        for (int shift = 0; shift < 11; shift++) {
            Tollweave net = Checks.withGates(12);
            for (int road = 0; road < 11; road++) {
                int gate = (road * 5 + shift) % 11;
                net.road(gate + 1, gate, 50, 0);
            }
            CHECKS.equal("the greatest distance", 550, net.distance(0, 11));
            CHECKS.equal("and back", 550, net.distance(11, 0));
            for (int road = 0; road < 11; road++) {
                int gate = (road * 5 + shift) % 11;
                CHECKS.equal("a road of the longest way", road, net.way(0, 11, gate));
                CHECKS.equal("and of that back", road, net.way(11, 0, 10 - gate));
            }
            CHECKS.equal("behind it", -1, net.way(0, 11, 11));
            CHECKS.equal("behind that back", -1, net.way(11, 0, 11));
        }
    }
}
