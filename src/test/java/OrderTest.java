/** If several exceptions apply, the one that the throws clause names first is thrown. */
public final class OrderTest {
    private static final Checks CHECKS = new Checks("OrderTest");
    private static final Tollweave FULL = Answers.fullNetwork();

    public static void main(String[] args) {
        road();
        plate();
        top();
        exempt();
        read();
        strike();
        pass();
        journey();
        ofReading();
        CHECKS.end();
    }

    /** No gate, then length, owner or the same gate, then too many. */
    private static void road() {
        Tollweave net = Checks.withGates(2);
        CHECKS.noIndex("no gate, length", () -> net.road(2, 0, 0, 0));
        CHECKS.noIndex("no other gate, length", () -> net.road(0, 2, 51, 0));
        CHECKS.noIndex("no gate, owner", () -> net.road(-1, 0, 1, 4));
        CHECKS.noIndex("no other gate, owner", () -> net.road(0, -1, 1, -1));
        CHECKS.noIndex("no gate, both the same", () -> net.road(2, 2, 1, 0));
        CHECKS.noIndex("no gate, both the same, length and owner", () -> net.road(-1, -1, 0, 4));
        CHECKS.noIndex("no gate, full", () -> FULL.road(12, 0, 1, 0));
        CHECKS.noIndex("no other gate, full", () -> FULL.road(0, 12, 1, 0));
        CHECKS.noIndex("no gate, length, full", () -> FULL.road(-1, 0, 0, 0));
        CHECKS.noIndex("no other gate, owner, full", () -> FULL.road(0, -1, 1, 4));
        CHECKS.noIndex("no gates, both the same, full", () -> FULL.road(12, 12, 1, 0));
        CHECKS.noArgument("length 0, full", () -> FULL.road(0, 1, 0, 0));
        CHECKS.noArgument("length 51, full", () -> FULL.road(0, 1, 51, 0));
        CHECKS.noArgument("owner -1, full", () -> FULL.road(0, 1, 1, -1));
        CHECKS.noArgument("owner 4, full", () -> FULL.road(0, 1, 1, 4));
        CHECKS.noArgument("both the same, full", () -> FULL.road(3, 3, 1, 0));
        CHECKS.noState("nothing but full", () -> FULL.road(0, 1, 1, 0));
        Tollweave empty = new Tollweave();
        CHECKS.noIndex("no gates yet, both the same", () -> empty.road(0, 0, 0, 4));
    }

    /** No plate, then class or holder. */
    private static void plate() {
        Tollweave net = new Tollweave();
        CHECKS.noIndex("no plate, class", () -> net.plate(10, 3, 0));
        CHECKS.noIndex("no plate, class below 0", () -> net.plate(-1, -1, 0));
        CHECKS.noIndex("no plate, holder", () -> net.plate(10, 0, 6));
        CHECKS.noIndex("no plate, holder below NONE", () -> net.plate(-1, 0, -2));
        CHECKS.noIndex("no plate, class, holder", () -> net.plate(10, 3, 6));
    }

    /** No holder, then cents. */
    private static void top() {
        Tollweave net = new Tollweave();
        CHECKS.noIndex("no holder, too few cents", () -> net.top(6, 0));
        CHECKS.noIndex("no holder, too many cents", () -> net.top(-1, 100001));
        CHECKS.noIndex("NONE is no holder of a wallet", () -> net.top(Tollweave.NONE, 1));
    }

    /** No plate, then from or to, then too many. */
    private static void exempt() {
        Tollweave net = new Tollweave();
        CHECKS.noIndex("no plate, from", () -> net.exempt(10, -1, 5));
        CHECKS.noIndex("no plate, to", () -> net.exempt(-1, 0, 100001));
        CHECKS.noIndex("no plate, to less than from", () -> net.exempt(10, 6, 5));
        CHECKS.noIndex("no plate, full", () -> FULL.exempt(10, 0, 0));
        CHECKS.noIndex("no plate, from, full", () -> FULL.exempt(-1, -1, 0));
        CHECKS.noArgument("from below 0, full", () -> FULL.exempt(0, -1, 0));
        CHECKS.noArgument("from 100001, full", () -> FULL.exempt(0, 100001, 100001));
        CHECKS.noArgument("to less than from, full", () -> FULL.exempt(0, 1, 0));
        CHECKS.noArgument("to 100001, full", () -> FULL.exempt(0, 0, 100001));
        CHECKS.noState("nothing but full", () -> FULL.exempt(0, 0, 0));
    }

    /** No gate or plate, then the minute, then too many. */
    private static void read() {
        Tollweave net = Checks.withGates(2);
        CHECKS.noIndex("no gate, minute", () -> net.read(2, 0, 1));
        CHECKS.noIndex("no plate, minute", () -> net.read(0, 10, 1));
        CHECKS.noIndex("no gate, minute below 0", () -> net.read(-1, 0, -1));
        CHECKS.noIndex("no plate, minute below 0", () -> net.read(0, -1, -1));
        CHECKS.noIndex("no gate, full", () -> FULL.read(12, 0, 0));
        CHECKS.noIndex("no plate, full", () -> FULL.read(0, 10, 0));
        CHECKS.noIndex("no gate, minute, full", () -> FULL.read(12, 0, 100001));
        CHECKS.noIndex("no plate, minute, full", () -> FULL.read(0, -1, -1));
        CHECKS.noArgument("minute behind now, full", () -> FULL.read(0, 0, 100001));
        CHECKS.noArgument("minute below 0, full", () -> FULL.read(0, 0, -1));
        CHECKS.noState("nothing but full", () -> FULL.read(0, 0, 0));
    }

    /** A reading that is not there is not struck. */
    private static void strike() {
        Tollweave net = Checks.withGates(1);
        net.read(0, 0, 0);
        net.strike(0);
        CHECKS.noIndex("the one behind a struck one", () -> net.strike(1));
        CHECKS.noIndex("the one ahead of a struck one", () -> net.strike(-1));
        CHECKS.noState("the struck one", () -> net.strike(0));
    }

    /** Minutes, then the last minute. */
    private static void pass() {
        CHECKS.noArgument("no minutes at the last", () -> FULL.pass(0));
        CHECKS.noArgument("minutes below 0 at the last", () -> FULL.pass(-1));
        CHECKS.noArgument("too many minutes at the last", () -> FULL.pass(1441));
        CHECKS.noArgument("the greatest minutes at the last", () -> FULL.pass(Integer.MAX_VALUE));
        CHECKS.noState("nothing but the last", () -> FULL.pass(1));
        CHECKS.noState("a day at the last", () -> FULL.pass(1440));
    }

    /** No plate or journey, then what. */
    private static void journey() {
        Tollweave net = Checks.withGates(1);
        net.read(0, 0, 0);
        CHECKS.noIndex("no plate, what", () -> net.journey(10, 0, 9));
        CHECKS.noIndex("no plate, no journey, what", () -> net.journey(-1, -1, -1));
        CHECKS.noIndex("no journey, what", () -> net.journey(0, 1, 9));
        CHECKS.noIndex("no journey -1, what", () -> net.journey(0, -1, -1));
        CHECKS.noIndex("no journey of this plate, what", () -> net.journey(1, 0, 9));
        CHECKS.noArgument("nothing but what", () -> net.journey(0, 0, 9));
    }

    /** No reading, then what. */
    private static void ofReading() {
        Tollweave net = Checks.withGates(1);
        CHECKS.noIndex("no readings, what", () -> net.ofReading(0, 6));
        net.read(0, 0, 0);
        CHECKS.noIndex("no reading, what", () -> net.ofReading(1, 6));
        CHECKS.noIndex("no reading -1, what", () -> net.ofReading(-1, -1));
        CHECKS.noArgument("nothing but what", () -> net.ofReading(0, 6));
    }
}
