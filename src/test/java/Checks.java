import java.util.ArrayList;
import java.util.List;

/** Counts the answers that are not as due, and tells of each. */
final class Checks {
    /** A call whose answer does not matter. */
    interface Order {
        void give();
    }

    private final String name;
    private int checked = 0;
    private int wrong = 0;

    Checks(String name) {
        this.name = name;
    }

    void equal(String what, long want, long got) {
        checked++;
        if (want != got) {
            tell(what + " answered " + got + ", due is " + want);
        }
    }

    void isTrue(String what, boolean holds) {
        checked++;
        if (!holds) {
            tell(what);
        }
    }

    /** The very class is asked for: what the machine itself throws is of a class below it. */
    void fails(Class<? extends RuntimeException> due, String what, Order order) {
        checked++;
        try {
            order.give();
        } catch (RuntimeException e) {
            if (e.getClass() != due) {
                tell(what + " threw " + e + ", due is " + due.getName());
            }
            return;
        }
        tell(what + " threw nothing, due is " + due.getName());
    }

    void passes(String what, Order order) {
        checked++;
        try {
            order.give();
        } catch (RuntimeException e) {
            tell(what + " threw " + e + ", due is an answer");
        }
    }

    void noIndex(String what, Order order) {
        fails(IndexOutOfBoundsException.class, what, order);
    }

    void noArgument(String what, Order order) {
        fails(IllegalArgumentException.class, what, order);
    }

    void noState(String what, Order order) {
        fails(IllegalStateException.class, what, order);
    }

    void tell(String text) {
        wrong++;
        System.out.println(name + ": " + text);
    }

    /** Ends the program with 1 if an answer was not as due. */
    void end() {
        System.out.println(name + ": " + checked + " checks, " + wrong + " wrong");
        if (wrong != 0) {
            System.exit(1);
        }
    }

    /** All that can be seen of a small network, as one list. */
    static List<Long> all(Tollweave net, int gates, int readings) {
        List<Long> seen = new ArrayList<>();
        for (int one = 0; one < gates; one++) {
            for (int other = 0; other < gates; other++) {
                seen.add((long) net.distance(one, other));
                seen.add((long) net.way(one, other, 0));
            }
        }
        for (int reading = 0; reading < readings; reading++) {
            for (int what = 0; what <= 5; what++) {
                seen.add((long) net.ofReading(reading, what));
            }
        }
        for (int plate = 0; plate < 10; plate++) {
            int journeys = net.journeys(plate);
            seen.add((long) journeys);
            for (int journey = 0; journey < journeys; journey++) {
                for (int what = 0; what <= 8; what++) {
                    seen.add((long) net.journey(plate, journey, what));
                }
            }
            seen.add(net.due(plate));
            seen.add(net.billed(plate));
            seen.add(net.own(plate));
        }
        for (int holder = 0; holder < 6; holder++) {
            seen.add(net.wallet(holder));
        }
        for (int owner = 0; owner < 4; owner++) {
            seen.add(net.share(owner, false));
            seen.add(net.share(owner, true));
        }
        return seen;
    }

    static Tollweave withGates(int gates) {
        Tollweave net = new Tollweave();
        for (int gate = 0; gate < gates; gate++) {
            net.gate();
        }
        return net;
    }
}
