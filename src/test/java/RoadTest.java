/** Promises 1, 2, 3, 13 and 14: gates, roads, distances and ways. */
public final class RoadTest {
    private static final Checks CHECKS = new Checks("RoadTest");

    public static void main(String[] args) {
        newObject();
        gates();
        roads();
        wrongRoads();
        roadLimit();
        distances();
        ways();
        wrongAsked();
        CHECKS.end();
    }

    /** Promise 1. */
    private static void newObject() {
        Tollweave net = new Tollweave();
        CHECKS.noIndex("distance without gates", () -> net.distance(0, 0));
        CHECKS.noIndex("read without gates", () -> net.read(0, 0, 0));
        CHECKS.noIndex("ofReading without readings", () -> net.ofReading(0, 0));
        CHECKS.equal("NONE", -1, Tollweave.NONE);
        for (int plate = 0; plate < 10; plate++) {
            CHECKS.equal("journeys of a new object", 0, net.journeys(plate));
            CHECKS.equal("due of a new object", 0, net.due(plate));
            CHECKS.equal("billed of a new object", 0, net.billed(plate));
            CHECKS.equal("own of a new object", 0, net.own(plate));
        }
        for (int holder = 0; holder < 6; holder++) {
            CHECKS.equal("wallet of a new object", 0, net.wallet(holder));
        }
        for (int owner = 0; owner < 4; owner++) {
            CHECKS.equal("share got of a new object", 0, net.share(owner, false));
            CHECKS.equal("share due of a new object", 0, net.share(owner, true));
        }
        CHECKS.equal("bill of a new object", 0, net.bill());
        CHECKS.equal("most of a new object", 5000, net.most(1));
        CHECKS.equal("now of a new object is 0", 1, net.pass(1));
    }

    /** Promise 2. */
    private static void gates() {
        Tollweave net = new Tollweave();
        for (int gate = 0; gate < 12; gate++) {
            int number = gate;
            CHECKS.noIndex("a gate ahead of being built", () -> net.distance(0, number));
            CHECKS.equal("gate", gate, net.gate());
            CHECKS.equal("distance of a new gate", gate == 0 ? 0 : -1, net.distance(0, gate));
        }
        CHECKS.noState("gate 12", net::gate);
        CHECKS.noState("gate 12 again", net::gate);
        CHECKS.equal("distance of the last gate", 0, net.distance(11, 11));
        CHECKS.noIndex("the refused gate", () -> net.distance(12, 0));
        Tollweave other = new Tollweave();
        CHECKS.equal("gate of another object", 0, other.gate());
    }

    /** Promise 3. */
    private static void roads() {
        Tollweave net = Checks.withGates(3);
        CHECKS.equal("the shortest road", 0, net.road(0, 1, 1, 0));
        CHECKS.equal("the longest road", 1, net.road(2, 1, 50, 3));
        CHECKS.equal("distance gone forth", 1, net.distance(0, 1));
        CHECKS.equal("distance gone back", 1, net.distance(1, 0));
        CHECKS.equal("distance of two roads", 51, net.distance(0, 2));
        CHECKS.equal("a road beside another one", 2, net.road(1, 2, 20, 1));
        CHECKS.equal("distance by the shorter one", 21, net.distance(2, 0));
    }

    private static void wrongRoads() {
        Tollweave net = Checks.withGates(2);
        CHECKS.noIndex("road from -1", () -> net.road(-1, 1, 1, 0));
        CHECKS.noIndex("road from 2", () -> net.road(2, 1, 1, 0));
        CHECKS.noIndex("road to -1", () -> net.road(0, -1, 1, 0));
        CHECKS.noIndex("road to 2", () -> net.road(0, 2, 1, 0));
        CHECKS.noIndex("road from the least", () -> net.road(Integer.MIN_VALUE, 1, 1, 0));
        CHECKS.noIndex("road to the greatest", () -> net.road(0, Integer.MAX_VALUE, 1, 0));
        CHECKS.noIndex("no gate ahead of a wrong length", () -> net.road(2, 2, 0, 4));
        CHECKS.noIndex("no other gate ahead of a wrong length", () -> net.road(0, 2, 0, 4));
        CHECKS.noArgument("length 0", () -> net.road(0, 1, 0, 0));
        CHECKS.noArgument("length 51", () -> net.road(0, 1, 51, 0));
        CHECKS.noArgument("length below 0", () -> net.road(0, 1, -1, 0));
        CHECKS.noArgument("owner -1", () -> net.road(0, 1, 1, -1));
        CHECKS.noArgument("owner 4", () -> net.road(0, 1, 1, 4));
        CHECKS.noArgument("the same gate", () -> net.road(1, 1, 1, 0));
        CHECKS.equal("nothing was built", -1, net.distance(0, 1));
        CHECKS.equal("the first road that is built", 0, net.road(0, 1, 7, 0));
    }

    private static void roadLimit() {
        Tollweave net = Checks.withGates(4);
        for (int road = 0; road < 24; road++) {
            CHECKS.equal("road", road, net.road(0, 1 + road % 2, 50 - road, road % 4));
        }
        CHECKS.noState("road 24", () -> net.road(0, 3, 1, 0));
        CHECKS.noArgument("a wrong length ahead of the limit", () -> net.road(0, 3, 0, 0));
        CHECKS.noArgument("the same gate ahead of the limit", () -> net.road(3, 3, 1, 0));
        CHECKS.noIndex("no gate ahead of the limit", () -> net.road(0, 4, 1, 0));
        CHECKS.equal("the refused road leads nowhere", -1, net.distance(0, 3));
        CHECKS.equal("the last road leads", 27, net.distance(0, 2));
        CHECKS.equal("the way by the last road", 23, net.way(0, 2, 0));
    }

    /** Promise 13. */
    private static void distances() {
        Tollweave net = Checks.withGates(6);
        net.road(0, 1, 10, 0);
        net.road(1, 2, 10, 0);
        net.road(2, 3, 10, 0);
        CHECKS.equal("distance along a line", 30, net.distance(0, 3));
        CHECKS.equal("distance to itself", 0, net.distance(2, 2));
        CHECKS.equal("distance to itself without roads", 0, net.distance(5, 5));
        CHECKS.equal("distance without a way", -1, net.distance(0, 4));
        net.road(4, 5, 3, 0);
        CHECKS.equal("distance between two parts", -1, net.distance(5, 1));
        CHECKS.equal("distance in the other part", 3, net.distance(5, 4));
        net.road(3, 4, 2, 0);
        CHECKS.equal("distance of parts that were joined", 35, net.distance(0, 5));
        CHECKS.equal("and back", 35, net.distance(5, 0));
        net.road(0, 3, 29, 0);
        CHECKS.equal("distance by a road that is less by 1", 29, net.distance(0, 3));
        CHECKS.equal("distance gone round", 10, net.distance(3, 2));
        CHECKS.equal("distance behind the new road", 34, net.distance(0, 5));
        net.road(5, 0, 1, 0);
        CHECKS.equal("distance in a ring", 6, net.distance(0, 3));
        CHECKS.equal("distance in a ring, the other way round", 14, net.distance(1, 4));
        Tollweave line = Checks.withGates(12);
        for (int gate = 0; gate < 11; gate++) {
            line.road(gate + 1, gate, 50, 0);
        }
        CHECKS.equal("the greatest distance", 550, line.distance(0, 11));
        CHECKS.equal("the last road of the longest way", 10, line.way(0, 11, 10));
        CHECKS.equal("behind the longest way", -1, line.way(0, 11, 11));
        CHECKS.equal("the last road of it gone back", 0, line.way(11, 0, 10));
    }

    /** Promise 14. */
    private static void ways() {
        Tollweave net = Checks.withGates(5);
        net.road(0, 1, 5, 0);
        net.road(0, 2, 4, 0);
        net.road(2, 3, 6, 0);
        net.road(1, 3, 5, 0);
        // Both ways from 0 to 3 are of length 10: the lowest road from each gate is gone.
        way(net, 0, 3, 0, 3);
        way(net, 3, 0, 2, 1);
        net.road(1, 3, 5, 0);
        way(net, 0, 3, 0, 3);
        CHECKS.equal("way to itself", -1, net.way(3, 3, 0));
        CHECKS.equal("way without roads", -1, net.way(0, 4, 0));
        CHECKS.equal("way without roads back", -1, net.way(4, 0, 5));
        CHECKS.equal("way at the greatest place", -1, net.way(0, 3, Integer.MAX_VALUE));
        net.road(0, 3, 10, 0);
        way(net, 0, 3, 0, 3);
        way(net, 3, 0, 2, 1);
        net.road(0, 3, 9, 0);
        way(net, 0, 3, 6);
        way(net, 3, 0, 6);
        // A lower road that leads nearer to the goal, but not by a shortest way, is not gone.
        Tollweave other = Checks.withGates(3);
        other.road(0, 1, 9, 0);
        other.road(0, 2, 3, 0);
        other.road(2, 1, 3, 0);
        other.road(1, 2, 3, 0);
        way(other, 0, 1, 1, 2);
        way(other, 1, 0, 2, 1);
        // The way is of the least length, not of the fewest roads, and its roads are told in turn.
        Tollweave third = Checks.withGates(4);
        third.road(3, 2, 1, 0);
        third.road(0, 3, 4, 0);
        third.road(2, 1, 1, 0);
        third.road(1, 0, 1, 0);
        way(third, 0, 3, 3, 2, 0);
    }

    private static void way(Tollweave net, int from, int goal, int... roads) {
        for (int place = 0; place < roads.length; place++) {
            String what = "way(" + from + ", " + goal + ", " + place + ")";
            CHECKS.equal(what, roads[place], net.way(from, goal, place));
        }
        CHECKS.equal("the end of the way from " + from + " to " + goal, -1,
                net.way(from, goal, roads.length));
    }

    private static void wrongAsked() {
        Tollweave net = Checks.withGates(2);
        net.road(0, 1, 1, 0);
        CHECKS.noIndex("distance from -1", () -> net.distance(-1, 0));
        CHECKS.noIndex("distance from 2", () -> net.distance(2, 0));
        CHECKS.noIndex("distance to -1", () -> net.distance(0, -1));
        CHECKS.noIndex("distance to 2", () -> net.distance(0, 2));
        CHECKS.noIndex("way from -1", () -> net.way(-1, 0, 0));
        CHECKS.noIndex("way from 2", () -> net.way(2, 0, 0));
        CHECKS.noIndex("way to -1", () -> net.way(0, -1, 0));
        CHECKS.noIndex("way to 2", () -> net.way(0, 2, 0));
        CHECKS.noIndex("way at -1", () -> net.way(0, 1, -1));
        CHECKS.noIndex("way at the least place", () -> net.way(0, 1, Integer.MIN_VALUE));
        CHECKS.noIndex("way to itself at -1", () -> net.way(0, 0, -1));
    }
}
