import java.util.List;

/** Promises 6, 7 and 8: classes and holders of plates, wallets and exempt spans. */
public final class PlateTest {
    private static final Checks CHECKS = new Checks("PlateTest");

    public static void main(String[] args) {
        plates();
        wrongPlates();
        tops();
        wrongTops();
        exempts();
        spansOfOneReading();
        wrongExempts();
        CHECKS.end();
    }

    /** A network 0 -10- 1 with roads of owner 2, and now at 1440. */
    private static Tollweave oneRoad() {
        Tollweave net = Checks.withGates(2);
        net.road(0, 1, 10, 2);
        net.pass(1440);
        return net;
    }

    /** Promise 6. */
    private static void plates() {
        Tollweave net = oneRoad();
        net.rate(1, 20, 100);
        net.rate(2, 30, 100);
        net.read(0, 9, 0);
        net.read(1, 9, 10);
        CHECKS.equal("class 0 at first", 100, net.due(9));
        CHECKS.equal("bill of a plate without a holder", 100, net.bill());
        CHECKS.equal("taken from the plate itself", -100, net.own(9));
        net.plate(9, 1, 5);
        CHECKS.equal("due by the class now", 200, net.due(9));
        CHECKS.equal("what was billed stays billed", 100, net.billed(9));
        CHECKS.equal("nothing is moved to the holder", 0, net.wallet(5));
        CHECKS.equal("nothing is moved from the plate", -100, net.own(9));
        CHECKS.equal("bill of the rest", 100, net.bill());
        CHECKS.equal("taken from the holder", -100, net.wallet(5));
        CHECKS.equal("not from the plate", -100, net.own(9));
        net.plate(9, 2, 0);
        CHECKS.equal("bill to another holder", 100, net.bill());
        CHECKS.equal("the holder before", -100, net.wallet(5));
        CHECKS.equal("the holder now", -100, net.wallet(0));
        net.plate(9, 0, 0);
        CHECKS.equal("bill of a lower class", -200, net.bill());
        CHECKS.equal("paid back to the holder now", 100, net.wallet(0));
        net.plate(9, 2, Tollweave.NONE);
        CHECKS.equal("without a holder again", 200, net.bill());
        CHECKS.equal("taken from the plate", -300, net.own(9));
        net.plate(0, 0, 3);
        CHECKS.equal("another plate", 0, net.bill());
    }

    private static void wrongPlates() {
        Tollweave net = oneRoad();
        net.rate(1, 20, 100);
        net.plate(4, 1, 2);
        net.read(0, 4, 0);
        net.read(1, 4, 10);
        CHECKS.noIndex("plate -1", () -> net.plate(-1, 0, 0));
        CHECKS.noIndex("plate 10", () -> net.plate(10, 0, 0));
        CHECKS.noIndex("plate 10 of class 3", () -> net.plate(10, 3, 0));
        CHECKS.noIndex("plate -1 of holder 6", () -> net.plate(-1, 0, 6));
        CHECKS.noArgument("class -1", () -> net.plate(4, -1, 0));
        CHECKS.noArgument("class 3", () -> net.plate(4, 3, 0));
        CHECKS.noArgument("holder -2", () -> net.plate(4, 0, -2));
        CHECKS.noArgument("holder 6", () -> net.plate(4, 0, 6));
        CHECKS.noArgument("class 3 without a holder", () -> net.plate(4, 3, Tollweave.NONE));
        CHECKS.equal("the class as it was", 200, net.bill());
        CHECKS.equal("the holder as it was", -200, net.wallet(2));
    }

    /** Promise 7. */
    private static void tops() {
        Tollweave net = oneRoad();
        CHECKS.equal("the least top", 1, net.top(5, 1));
        CHECKS.equal("the greatest top", 100001, net.top(5, 100000));
        CHECKS.equal("another wallet", 7, net.top(0, 7));
        CHECKS.equal("the wallet", 100001, net.wallet(5));
        net.plate(1, 0, 3);
        net.read(0, 1, 0);
        net.read(1, 1, 10);
        net.bill();
        CHECKS.equal("a top into debts", -60, net.top(3, 40));
        CHECKS.equal("a top out of debts", 0, net.top(3, 60));
        long due = 100001;
        for (int top = 0; top < 400; top++) {
            due += 100000;
            net.top(5, 100000);
        }
        CHECKS.equal("after 400 tops", due, net.wallet(5));
    }

    private static void wrongTops() {
        Tollweave net = new Tollweave();
        CHECKS.noIndex("holder -1", () -> net.top(-1, 1));
        CHECKS.noIndex("holder 6", () -> net.top(6, 1));
        CHECKS.noIndex("holder 6 with 0 cents", () -> net.top(6, 0));
        CHECKS.noArgument("0 cents", () -> net.top(0, 0));
        CHECKS.noArgument("cents below 0", () -> net.top(0, -1));
        CHECKS.noArgument("100001 cents", () -> net.top(0, 100001));
        CHECKS.noArgument("the greatest cents", () -> net.top(0, Integer.MAX_VALUE));
        for (int holder = 0; holder < 6; holder++) {
            CHECKS.equal("a wallet after wrong tops", 0, net.wallet(holder));
        }
    }

    /** Promise 8. */
    private static void exempts() {
        Tollweave net = oneRoad();
        for (int plate = 0; plate < 10; plate++) {
            net.read(0, plate, 100);
            net.read(1, plate, 110);
            net.read(0, plate, 120);
        }
        CHECKS.equal("a span ahead of the reading", 1, net.exempt(0, 0, 99));
        CHECKS.equal("due behind the span", 200, net.due(0));
        CHECKS.equal("a span from the reading on", 2, net.exempt(1, 100, 109));
        CHECKS.equal("due of the second leg", 100, net.due(1));
        CHECKS.equal("a span up to the reading", 3, net.exempt(2, 0, 110));
        CHECKS.equal("due of none", 0, net.due(2));
        CHECKS.equal("a span of one minute", 4, net.exempt(3, 110, 110));
        CHECKS.equal("due of the first leg", 100, net.due(3));
        CHECKS.equal("a span behind both", 5, net.exempt(4, 111, 100000));
        CHECKS.equal("the last reading of a journey costs nothing", 200, net.due(4));
        CHECKS.equal("a second span", 6, net.exempt(4, 101, 110));
        CHECKS.equal("due by the second span", 100, net.due(4));
        CHECKS.equal("the same span again", 7, net.exempt(4, 101, 110));
        CHECKS.equal("due as it was", 100, net.due(4));
        CHECKS.equal("all minutes", 8, net.exempt(5, 0, 100000));
        CHECKS.equal("due of none at all", 0, net.due(5));
        CHECKS.equal("a span of no one else", 200, net.due(6));
        CHECKS.equal("the journey is there nevertheless", 1, net.journeys(5));
        CHECKS.equal("its readings count", 3, net.journey(5, 0, 2));
        CHECKS.equal("share due", 200 + 100 + 0 + 100 + 100 + 0 + 4 * 200, net.share(2, true));
    }

    /** A span that comes after the bill is paid back; those of before stand. */
    private static void spansOfOneReading() {
        Tollweave net = oneRoad();
        net.plate(0, 0, 1);
        net.read(0, 0, 100);
        net.read(1, 0, 110);
        net.read(0, 0, 120);
        CHECKS.equal("bill", 200, net.bill());
        CHECKS.equal("exempt", 1, net.exempt(0, 100, 100));
        CHECKS.equal("bill after exempt", -100, net.bill());
        CHECKS.equal("exempt the second leg", 2, net.exempt(0, 110, 110));
        CHECKS.equal("bill after both", -100, net.bill());
        CHECKS.equal("the wallet", 0, net.wallet(1));
        CHECKS.equal("the owner", 0, net.share(2, false));
    }

    private static void wrongExempts() {
        Tollweave net = oneRoad();
        net.read(0, 0, 100);
        net.read(1, 0, 110);
        List<Long> before = Checks.all(net, 2, 2);
        CHECKS.noIndex("plate -1", () -> net.exempt(-1, 0, 1));
        CHECKS.noIndex("plate 10", () -> net.exempt(10, 0, 1));
        CHECKS.noIndex("plate 10 with a wrong span", () -> net.exempt(10, 1, 0));
        CHECKS.noArgument("from -1", () -> net.exempt(0, -1, 1000));
        CHECKS.noArgument("from 100001", () -> net.exempt(0, 100001, 100001));
        CHECKS.noArgument("to less than from", () -> net.exempt(0, 100, 99));
        CHECKS.noArgument("to 100001", () -> net.exempt(0, 100, 100001));
        CHECKS.noArgument("to -1", () -> net.exempt(0, 0, -1));
        CHECKS.isTrue("wrong spans exempt nothing", before.equals(Checks.all(net, 2, 2)));
        for (int span = 1; span <= 20; span++) {
            CHECKS.equal("span", span, net.exempt(span % 10, 100000, 100000));
        }
        CHECKS.noState("span 21", () -> net.exempt(0, 0, 100000));
        CHECKS.noArgument("a wrong span ahead of the limit", () -> net.exempt(0, 1, 0));
        CHECKS.noIndex("no plate ahead of the limit", () -> net.exempt(-1, 1, 0));
        CHECKS.isTrue("the refused span exempts nothing", before.equals(Checks.all(net, 2, 2)));
    }
}
