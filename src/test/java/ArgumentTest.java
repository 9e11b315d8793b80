/** Each parameter of each call: the least and the greatest that is taken, and what is refused. */
public final class ArgumentTest {
    /** A call whose one argument is tried; the others are right. */
    private interface Call {
        void with(Tollweave net, int argument);
    }

    private static final Checks CHECKS = new Checks("ArgumentTest");
    private static final int NOW = 1000;
    private static final int LAST_READING = 11;
    /** Far outside of each range, some of them inside when cut to a byte, a short or an int. */
    private static final int[] FAR = {
        Integer.MIN_VALUE, Integer.MIN_VALUE + 1, Integer.MIN_VALUE + 2, -65536, -65535, -256, -255,
        -2, 1 << 24, (1 << 24) + 1, Integer.MAX_VALUE - 1, Integer.MAX_VALUE};

    public static void main(String[] args) {
        road();
        rate();
        most();
        plate();
        top();
        exempt();
        read();
        strike();
        pass();
        distance();
        way();
        journeys();
        journey();
        ofReading();
        sums();
        share();
        CHECKS.end();
    }

    /** 0 -10- 1 -5- 2, a journey of each plate, and a second one of plate 0; now is 1000. */
    private static Tollweave network() {
        Tollweave net = Checks.withGates(3);
        net.road(0, 1, 10, 0);
        net.road(1, 2, 5, 1);
        net.pass(NOW);
        for (int plate = 0; plate < 10; plate++) {
            net.read(0, plate, 100);
        }
        net.read(1, 0, 110);
        net.read(0, 0, 300);
        return net;
    }

    private static void index(String what, int least, int greatest, Call call) {
        edges(IndexOutOfBoundsException.class, what, least, greatest, call);
    }

    private static void argument(String what, int least, int greatest, Call call) {
        edges(IllegalArgumentException.class, what, least, greatest, call);
    }

    private static void edges(Class<? extends RuntimeException> refusal, String what, int least,
            int greatest, Call call) {
        for (int taken : new int[] {least, greatest}) {
            CHECKS.passes(what + " " + taken, () -> call.with(network(), taken));
        }
        refused(refusal, what, (long) least - 1, call);
        refused(refusal, what, (long) greatest + 1, call);
        for (int far : FAR) {
            if (far < least || far > greatest) {
                refused(refusal, what, far, call);
            }
        }
    }

    private static void refused(Class<? extends RuntimeException> refusal, String what,
            long argument, Call call) {
        if (argument == (int) argument) {
            CHECKS.fails(refusal, what + " " + argument,
                    () -> call.with(network(), (int) argument));
        }
    }

    /** Promise 3. */
    private static void road() {
        index("road: one", 0, 2, (net, one) -> net.road(one, 1, 1, 0));
        index("road: other", 0, 2, (net, other) -> net.road(1, other, 1, 0));
        argument("road: length", 1, 50, (net, length) -> net.road(0, 2, length, 0));
        argument("road: owner", 0, 3, (net, owner) -> net.road(0, 2, 1, owner));
        for (int gate = 0; gate < 3; gate++) {
            int both = gate;
            CHECKS.noArgument("road: both gates the same",
                    () -> network().road(both, both, 1, 0));
        }
    }

    /** Promise 4. */
    private static void rate() {
        argument("rate: kind", 0, 2, (net, kind) -> net.rate(kind, 10, 150));
        argument("rate: rate", 0, 100, (net, rate) -> net.rate(0, rate, 150));
        argument("rate: percent", 0, 300, (net, percent) -> net.rate(0, 10, percent));
    }

    /** Promise 5. */
    private static void most() {
        argument("most: cents", 0, 100000, Tollweave::most);
    }

    /** Promise 6. */
    private static void plate() {
        index("plate: plate", 0, 9, (net, plate) -> net.plate(plate, 0, 0));
        argument("plate: kind", 0, 2, (net, kind) -> net.plate(0, kind, 0));
        argument("plate: holder", Tollweave.NONE, 5, (net, holder) -> net.plate(0, 0, holder));
    }

    /** Promise 7. */
    private static void top() {
        index("top: holder", 0, 5, (net, holder) -> net.top(holder, 1));
        argument("top: cents", 1, 100000, (net, cents) -> net.top(0, cents));
    }

    /** Promise 8: the greatest from is to, the least to is from. */
    private static void exempt() {
        index("exempt: plate", 0, 9, (net, plate) -> net.exempt(plate, 0, 0));
        argument("exempt: from", 0, 100000, (net, from) -> net.exempt(0, from, 100000));
        argument("exempt: to", 0, 100000, (net, to) -> net.exempt(0, 0, to));
        argument("exempt: from with to 500", 0, 500, (net, from) -> net.exempt(0, from, 500));
        argument("exempt: to with from 500", 500, 100000, (net, to) -> net.exempt(0, 500, to));
        argument("exempt: from with to 0", 0, 0, (net, from) -> net.exempt(0, from, 0));
        argument("exempt: both", 0, 100000, (net, both) -> net.exempt(0, both, both));
    }

    /** Promise 9. */
    private static void read() {
        index("read: gate", 0, 2, (net, gate) -> net.read(gate, 0, 0));
        index("read: plate", 0, 9, (net, plate) -> net.read(0, plate, 0));
        argument("read: minute", 0, NOW, (net, minute) -> net.read(0, 0, minute));
    }

    /** Promise 10. */
    private static void strike() {
        index("strike: reading", 0, LAST_READING, Tollweave::strike);
    }

    /** Promise 11. */
    private static void pass() {
        argument("pass: minutes", 1, 1440, Tollweave::pass);
    }

    /** Promise 13. */
    private static void distance() {
        index("distance: one", 0, 2, (net, one) -> net.distance(one, 0));
        index("distance: other", 0, 2, (net, other) -> net.distance(0, other));
        index("distance: both", 0, 2, (net, both) -> net.distance(both, both));
    }

    /** Promise 14. */
    private static void way() {
        index("way: one", 0, 2, (net, one) -> net.way(one, 0, 0));
        index("way: other", 0, 2, (net, other) -> net.way(0, other, 0));
        index("way: place", 0, Integer.MAX_VALUE, (net, place) -> net.way(0, 2, place));
        index("way to itself: place", 0, Integer.MAX_VALUE, (net, place) -> net.way(1, 1, place));
    }

    /** Promise 15. */
    private static void journeys() {
        index("journeys: plate", 0, 9, Tollweave::journeys);
    }

    /** Promise 16. */
    private static void journey() {
        index("journey: plate", 0, 9, (net, plate) -> net.journey(plate, 0, 0));
        index("journey: journey", 0, 1, (net, journey) -> net.journey(0, journey, 0));
        index("journey: the only journey", 0, 0, (net, journey) -> net.journey(9, journey, 0));
        argument("journey: what", 0, 8, (net, what) -> net.journey(0, 1, what));
    }

    /** Promise 17. */
    private static void ofReading() {
        index("ofReading: reading", 0, LAST_READING, (net, reading) -> net.ofReading(reading, 0));
        argument("ofReading: what", 0, 5, (net, what) -> net.ofReading(LAST_READING, what));
        argument("ofReading: what of a struck one", 0, 5, (net, what) -> {
            net.strike(3);
            net.ofReading(3, what);
        });
    }

    /** Promises 18, 19, 20 and 21. */
    private static void sums() {
        index("due: plate", 0, 9, Tollweave::due);
        index("billed: plate", 0, 9, Tollweave::billed);
        index("wallet: holder", 0, 5, Tollweave::wallet);
        index("own: plate", 0, 9, Tollweave::own);
    }

    /** Promise 22. */
    private static void share() {
        index("share got: owner", 0, 3, (net, owner) -> net.share(owner, false));
        index("share due: owner", 0, 3, (net, owner) -> net.share(owner, true));
    }
}
