import java.util.List;

/** A call that throws changes nothing: all that can be seen is as without it. */
public final class UnchangedTest {
    private static final Checks CHECKS = new Checks("UnchangedTest");

    public static void main(String[] args) {
        Tollweave net = busyNetwork();
        refused(net);
        List<Long> refusedOnes = seen(net);
        CHECKS.isTrue("refused calls change nothing", refusedOnes.equals(seen(busyNetwork())));
        CHECKS.equal("nor the most", 120, net.most(120));
        CHECKS.equal("nor now", 1221, net.pass(1));
        CHECKS.equal("nor the number of roads", 3, net.road(0, 1, 1, 1));
        CHECKS.equal("nor the number of gates", 3, net.gate());
        CHECKS.equal("nor the number of readings", 4, net.read(0, 0, 0));
        CHECKS.equal("nor the number of spans", 2, net.exempt(0, 0, 0));
        CHECKS.end();
    }

    private static List<Long> seen(Tollweave net) {
        return Checks.all(net, 3, 4);
    }

    private static Tollweave busyNetwork() {
        Tollweave net = Checks.withGates(3);
        net.road(0, 1, 10, 0);
        net.road(1, 2, 5, 1);
        net.road(0, 2, 16, 2);
        net.pass(1220);
        net.rate(1, 20, 200);
        net.most(120);
        net.plate(3, 1, 2);
        net.top(2, 500);
        net.exempt(3, 1000, 1010);
        net.read(0, 3, 420);
        net.read(1, 3, 430);
        net.read(2, 3, 436);
        net.read(2, 3, 438);
        net.bill();
        net.strike(2);
        return net;
    }

    private static void refused(Tollweave net) {
        CHECKS.noIndex("road", () -> net.road(0, 3, 1, 0));
        CHECKS.noArgument("road", () -> net.road(0, 2, 51, 0));
        CHECKS.noArgument("road", () -> net.road(0, 2, 1, 4));
        CHECKS.noArgument("rate", () -> net.rate(1, 0, 301));
        CHECKS.noArgument("rate", () -> net.rate(1, 101, 0));
        CHECKS.noArgument("most", () -> net.most(100001));
        CHECKS.noIndex("plate", () -> net.plate(10, 0, 0));
        CHECKS.noArgument("plate", () -> net.plate(3, 2, 6));
        CHECKS.noArgument("plate", () -> net.plate(3, 3, 1));
        CHECKS.noIndex("top", () -> net.top(6, 1));
        CHECKS.noArgument("top", () -> net.top(2, 100001));
        CHECKS.noIndex("exempt", () -> net.exempt(10, 0, 1));
        CHECKS.noArgument("exempt", () -> net.exempt(3, 420, 100001));
        CHECKS.noIndex("read", () -> net.read(3, 3, 431));
        CHECKS.noIndex("read", () -> net.read(0, 10, 431));
        CHECKS.noArgument("read", () -> net.read(0, 3, 1221));
        CHECKS.noIndex("strike", () -> net.strike(4));
        CHECKS.noState("strike", () -> net.strike(2));
        CHECKS.noArgument("pass", () -> net.pass(1441));
        CHECKS.noIndex("distance", () -> net.distance(0, 3));
        CHECKS.noIndex("way", () -> net.way(0, 1, -1));
        CHECKS.noIndex("journeys", () -> net.journeys(10));
        CHECKS.noIndex("journey", () -> net.journey(3, 1, 0));
        CHECKS.noArgument("journey", () -> net.journey(3, 0, 9));
        CHECKS.noIndex("ofReading", () -> net.ofReading(4, 0));
        CHECKS.noArgument("ofReading", () -> net.ofReading(0, 6));
        CHECKS.noIndex("due", () -> net.due(10));
        CHECKS.noIndex("billed", () -> net.billed(10));
        CHECKS.noIndex("wallet", () -> net.wallet(6));
        CHECKS.noIndex("own", () -> net.own(10));
        CHECKS.noIndex("share", () -> net.share(4, true));
    }
}
