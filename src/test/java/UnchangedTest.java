import java.util.ArrayList;
import java.util.List;

/**
 * A call that throws changes nothing: after each refused call by itself, an object answers all that
 * can be asked, and goes on, like one without that call.
 */
public final class UnchangedTest {
    private interface Call {
        void on(Tollweave net);
    }

    private record Refusal(String name, Class<? extends RuntimeException> due, Call call) {
    }

    private static final Checks CHECKS = new Checks("UnchangedTest");
    private static final List<Refusal> REFUSALS = new ArrayList<>();

    public static void main(String[] args) {
        refuseEmpty();
        tryAll("the empty object", Tollweave::new);
        REFUSALS.clear();
        refuseBuilding();
        refuseReading();
        refuseAsking();
        tryAll("a busy object", UnchangedTest::busyNetwork);
        refuseFull();
        tryAll("a full object", Answers::fullNetwork);
        billRefused();
        CHECKS.end();
    }

    private static void tryAll(String state, Answers.Maker maker) {
        List<String> without = Answers.of(maker);
        CHECKS.isTrue("two objects alike answer alike", without.equals(Answers.of(maker)));
        for (Refusal refusal : REFUSALS) {
            List<String> with = Answers.of(() -> {
                Tollweave net = maker.make();
                CHECKS.fails(refusal.due, refusal.name + " of " + state,
                        () -> refusal.call.on(net));
                return net;
            });
            CHECKS.isTrue(refusal.name + " changes " + state, without.equals(with));
        }
    }

    private static void index(String name, Call call) {
        REFUSALS.add(new Refusal(name, IndexOutOfBoundsException.class, call));
    }

    private static void argument(String name, Call call) {
        REFUSALS.add(new Refusal(name, IllegalArgumentException.class, call));
    }

    private static void state(String name, Call call) {
        REFUSALS.add(new Refusal(name, IllegalStateException.class, call));
    }

    private static Tollweave busyNetwork() {
        Tollweave net = Checks.withGates(3);
        net.road(0, 1, 10, 0);
        net.road(1, 2, 5, 1);
        net.road(0, 2, 16, 2);
        net.pass(1220);
        net.rate(1, 20, 200);
        net.most(120);
        net.plate(3, 1, 2);
        net.top(2, 500);
        net.exempt(3, 1000, 1010);
        net.read(0, 3, 420);
        net.read(1, 3, 430);
        net.read(2, 3, 436);
        net.read(2, 3, 438);
        for (int plate = 4; plate < 10; plate++) {
            net.read(0, plate, 410);
            net.read(1, plate, 425);
            net.read(2, plate, 431);
        }
        net.bill();
        net.strike(2);
        return net;
    }

    private static void refuseEmpty() {
        index("road without gates", net -> net.road(0, 1, 1, 0));
        index("read without gates", net -> net.read(0, 0, 0));
        index("strike without readings", net -> net.strike(0));
        index("distance without gates", net -> net.distance(0, 0));
        index("way without gates", net -> net.way(0, 0, 0));
        index("journey without readings", net -> net.journey(0, 0, 0));
        index("ofReading without readings", net -> net.ofReading(0, 0));
        argument("a rate of no class", net -> net.rate(3, 1, 1));
        argument("a wrong most", net -> net.most(-1));
        index("no plate", net -> net.plate(10, 1, 1));
        index("no holder", net -> net.top(6, 1));
        index("a span of no plate", net -> net.exempt(10, 0, 1));
        argument("a wrong span", net -> net.exempt(0, 1, 0));
        argument("pass of no minutes", net -> net.pass(0));
    }

    private static void refuseBuilding() {
        index("road from no gate", net -> net.road(3, 0, 1, 0));
        index("road to no gate", net -> net.road(0, 3, 1, 0));
        argument("road of the length 0", net -> net.road(0, 2, 0, 3));
        argument("road of the length 51", net -> net.road(0, 2, 51, 3));
        argument("road of the owner -1", net -> net.road(0, 2, 1, -1));
        argument("road of the owner 4", net -> net.road(0, 2, 1, 4));
        argument("road to the same gate", net -> net.road(2, 2, 1, 0));
        argument("rate of class -1", net -> net.rate(-1, 1, 1));
        argument("rate of class 3", net -> net.rate(3, 1, 1));
        argument("rate -1", net -> net.rate(1, -1, 1));
        argument("rate 101", net -> net.rate(1, 101, 1));
        argument("percent -1", net -> net.rate(1, 1, -1));
        argument("percent 301", net -> net.rate(1, 1, 301));
        argument("most -1", net -> net.most(-1));
        argument("most 100001", net -> net.most(100001));
        index("plate -1", net -> net.plate(-1, 0, 0));
        index("plate 10", net -> net.plate(10, 0, 0));
        argument("class -1 with another holder", net -> net.plate(3, -1, 1));
        argument("class 3 with another holder", net -> net.plate(3, 3, 1));
        argument("holder -2 with another class", net -> net.plate(3, 2, -2));
        argument("holder 6 with another class", net -> net.plate(3, 2, 6));
        index("top of holder -1", net -> net.top(-1, 1));
        index("top of holder 6", net -> net.top(6, 1));
        argument("top of 0", net -> net.top(2, 0));
        argument("top of 100001", net -> net.top(2, 100001));
        index("span of plate -1", net -> net.exempt(-1, 0, 1000));
        index("span of plate 10", net -> net.exempt(10, 0, 1000));
        argument("span from -1", net -> net.exempt(3, -1, 1000));
        argument("span to 100001", net -> net.exempt(3, 0, 100001));
        argument("span to less than from", net -> net.exempt(3, 421, 420));
    }

    private static void refuseReading() {
        index("read at gate -1", net -> net.read(-1, 3, 431));
        index("read at gate 3", net -> net.read(3, 3, 431));
        index("read of plate -1", net -> net.read(0, -1, 431));
        index("read of plate 10", net -> net.read(0, 10, 431));
        argument("read in minute -1", net -> net.read(0, 3, -1));
        argument("read in the minute behind now", net -> net.read(0, 3, 1221));
        index("strike of -1", net -> net.strike(-1));
        index("strike of the first that is not there", net -> net.strike(22));
        state("strike of a struck one", net -> net.strike(2));
        argument("pass of 0", net -> net.pass(0));
        argument("pass of -1", net -> net.pass(-1));
        argument("pass of 1441", net -> net.pass(1441));
        argument("the greatest pass", net -> net.pass(Integer.MAX_VALUE));
    }

    private static void refuseAsking() {
        index("distance", net -> net.distance(0, 3));
        index("way", net -> net.way(0, 1, -1));
        index("journeys", net -> net.journeys(10));
        index("journey of no plate", net -> net.journey(10, 0, 0));
        index("no journey", net -> net.journey(3, 1, 0));
        argument("journey with what 9", net -> net.journey(3, 0, 9));
        index("no reading", net -> net.ofReading(22, 0));
        argument("ofReading with what 6", net -> net.ofReading(0, 6));
        index("due", net -> net.due(10));
        index("billed", net -> net.billed(-1));
        index("wallet", net -> net.wallet(6));
        index("own", net -> net.own(10));
        index("share got", net -> net.share(4, false));
        index("share due", net -> net.share(-1, true));
    }

    private static void refuseFull() {
        REFUSALS.clear();
        state("gate 12", Tollweave::gate);
        state("road 24", net -> net.road(0, 6, 1, 3));
        state("span 21", net -> net.exempt(1, 0, 100000));
        state("reading 100", net -> net.read(0, 1, 1200));
        state("minute 100001", net -> net.pass(1));
        state("the minutes of a day", net -> net.pass(1440));
        index("strike of 100", net -> net.strike(100));
        index("read at gate 12", net -> net.read(12, 1, 1200));
    }

    /** What was billed stays as it was, too, when calls between two bills are refused. */
    private static void billRefused() {
        Tollweave net = busyNetwork();
        long due = busyNetwork().bill();
        CHECKS.noIndex("read", () -> net.read(3, 3, 1));
        CHECKS.noState("strike", () -> net.strike(2));
        CHECKS.equal("a bill behind refused calls", due, net.bill());
        CHECKS.noArgument("pass", () -> net.pass(1441));
        CHECKS.equal("another bill", 0, net.bill());
    }
}
