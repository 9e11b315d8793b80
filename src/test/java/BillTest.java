/** Promises 12 and 18 to 22: bills, what is due, wallets, plates without holders and owners. */
public final class BillTest {
    private static final Checks CHECKS = new Checks("BillTest");

    public static void main(String[] args) {
        bills();
        severalPlates();
        holderChanges();
        gotUntilBilled();
        sharesOfAllPlates();
        wrongAsked();
        CHECKS.end();
    }

    /** A network 0 -10- 1 -5- 2 with roads of the owners 0 and 1, and now at 1000. */
    private static Tollweave line() {
        Tollweave net = Checks.withGates(3);
        net.road(0, 1, 10, 0);
        net.road(1, 2, 5, 1);
        net.pass(1000);
        return net;
    }

    private static void gone(Tollweave net, int plate, int minute) {
        net.read(0, plate, minute);
        net.read(2, plate, minute + 15);
    }

    /** Promises 12, 18, 19, 20 and 21 of one plate. */
    private static void bills() {
        Tollweave net = line();
        net.plate(2, 0, 4);
        net.top(4, 1000);
        gone(net, 2, 0);
        CHECKS.equal("due", 150, net.due(2));
        CHECKS.equal("billed ahead of the bill", 0, net.billed(2));
        CHECKS.equal("the wallet ahead of the bill", 1000, net.wallet(4));
        CHECKS.equal("bill", 150, net.bill());
        CHECKS.equal("due after the bill", 150, net.due(2));
        CHECKS.equal("billed", 150, net.billed(2));
        CHECKS.equal("the wallet", 850, net.wallet(4));
        CHECKS.equal("the plate itself", 0, net.own(2));
        CHECKS.equal("bill again", 0, net.bill());
        CHECKS.equal("the wallet again", 850, net.wallet(4));
        gone(net, 2, 200);
        CHECKS.equal("due of two journeys", 300, net.due(2));
        CHECKS.equal("bill of the second", 150, net.bill());
        net.strike(0);
        CHECKS.equal("due after a strike", 150, net.due(2));
        CHECKS.equal("billed stays until the next bill", 300, net.billed(2));
        CHECKS.equal("paid back", -150, net.bill());
        CHECKS.equal("billed less what was paid back", 150, net.billed(2));
        CHECKS.equal("the wallet after it", 850, net.wallet(4));
        net.rate(0, 100, 100);
        CHECKS.equal("billed by the rate now", 1350, net.bill());
        CHECKS.equal("a wallet with debts", -500, net.wallet(4));
        net.most(1000);
        CHECKS.equal("due by the most now", 1000, net.due(2));
        CHECKS.equal("paid back by the most", -500, net.bill());
        CHECKS.equal("the wallet at last", 0, net.wallet(4));
    }

    private static void severalPlates() {
        Tollweave net = line();
        net.plate(0, 0, 5);
        net.plate(3, 1, 5);
        net.plate(9, 2, 0);
        net.rate(1, 20, 150);
        net.rate(2, 1, 150);
        gone(net, 0, 0);
        gone(net, 3, 0);
        gone(net, 9, 0);
        gone(net, 6, 0);
        CHECKS.equal("due of plate 3", 300, net.due(3));
        CHECKS.equal("due of plate 9", 15, net.due(9));
        CHECKS.equal("bill of four plates", 150 + 300 + 15 + 150, net.bill());
        CHECKS.equal("the wallet of two plates", -450, net.wallet(5));
        CHECKS.equal("the wallet of one", -15, net.wallet(0));
        CHECKS.equal("the plate without a holder", -150, net.own(6));
        for (int plate : new int[] {0, 1, 3, 9}) {
            CHECKS.equal("the plates with holders have nothing", 0, net.own(plate));
        }
        for (int holder = 1; holder < 5; holder++) {
            CHECKS.equal("the other wallets", 0, net.wallet(holder));
        }
        CHECKS.equal("billed of plate 0", 150, net.billed(0));
        CHECKS.equal("billed of plate 3", 300, net.billed(3));
        CHECKS.equal("billed of plate 6", 150, net.billed(6));
        CHECKS.equal("billed of plate 9", 15, net.billed(9));
        CHECKS.equal("billed of plate 1", 0, net.billed(1));
        net.strike(0);
        net.rate(2, 2, 150);
        CHECKS.equal("taken from one, paid back to another", -150 + 15, net.bill());
        CHECKS.equal("paid back", -300, net.wallet(5));
        CHECKS.equal("taken", -30, net.wallet(0));
    }

    private static void holderChanges() {
        Tollweave net = line();
        gone(net, 1, 0);
        net.plate(1, 0, 2);
        net.bill();
        CHECKS.equal("taken from the holder at the bill", -150, net.wallet(2));
        net.plate(1, 0, Tollweave.NONE);
        net.strike(1);
        CHECKS.equal("bill", -150, net.bill());
        CHECKS.equal("the holder before gets nothing back", -150, net.wallet(2));
        CHECKS.equal("the plate has more by what was paid back", 150, net.own(1));
        CHECKS.equal("billed", 0, net.billed(1));
        net.plate(1, 0, 3);
        gone(net, 1, 600);
        CHECKS.equal("bill of the new holder", 150, net.bill());
        CHECKS.equal("the plate keeps what it has", 150, net.own(1));
        CHECKS.equal("the new holder pays", -150, net.wallet(3));
    }

    /** Promise 22. */
    private static void gotUntilBilled() {
        Tollweave net = line();
        gone(net, 0, 0);
        CHECKS.equal("due to owner 0", 100, net.share(0, true));
        CHECKS.equal("due to owner 1", 50, net.share(1, true));
        CHECKS.equal("got ahead of the bill", 0, net.share(0, false));
        net.bill();
        CHECKS.equal("owner 0 has got", 100, net.share(0, false));
        CHECKS.equal("owner 1 has got", 50, net.share(1, false));
        CHECKS.equal("owner 2 has got", 0, net.share(2, false));
        net.bill();
        CHECKS.equal("got after a second bill", 100, net.share(0, false));
        net.road(0, 2, 14, 3);
        CHECKS.equal("due to owner 0 by the new way", 0, net.share(0, true));
        CHECKS.equal("due to owner 3 by the new way", 140, net.share(3, true));
        CHECKS.equal("got is as it was", 100, net.share(0, false));
        CHECKS.equal("bill", -10, net.bill());
        CHECKS.equal("owner 0 gives back", 0, net.share(0, false));
        CHECKS.equal("owner 1 gives back", 0, net.share(1, false));
        CHECKS.equal("owner 3 gets", 140, net.share(3, false));
    }

    private static void sharesOfAllPlates() {
        Tollweave net = line();
        for (int plate = 0; plate < 10; plate++) {
            gone(net, plate, 10 * plate);
            gone(net, plate, 10 * plate + 200);
        }
        CHECKS.equal("due to owner 0", 2000, net.share(0, true));
        CHECKS.equal("due to owner 1", 1000, net.share(1, true));
        net.most(75);
        CHECKS.equal("cut due to owner 0", 1000, net.share(0, true));
        CHECKS.equal("cut due to owner 1", 500, net.share(1, true));
        CHECKS.equal("bill", 1500, net.bill());
        CHECKS.equal("owner 0 has got", 1000, net.share(0, false));
        CHECKS.equal("owner 1 has got", 500, net.share(1, false));
        for (int plate = 0; plate < 10; plate++) {
            CHECKS.equal("each plate is without a holder at first", -150, net.own(plate));
        }
        net.most(74);
        // 100 * 74 / 150 = 49, 50 * 74 / 150 = 24: 50 and 24.
        CHECKS.equal("cut due to owner 0 with what is left", 1000, net.share(0, true));
        CHECKS.equal("cut due to owner 1, rounded down", 480, net.share(1, true));
    }

    private static void wrongAsked() {
        Tollweave net = line();
        for (int number : new int[] {-1, 10, Integer.MIN_VALUE, Integer.MAX_VALUE}) {
            CHECKS.noIndex("due", () -> net.due(number));
            CHECKS.noIndex("billed", () -> net.billed(number));
            CHECKS.noIndex("own", () -> net.own(number));
        }
        for (int number : new int[] {-1, 6, Integer.MIN_VALUE, Integer.MAX_VALUE}) {
            CHECKS.noIndex("wallet", () -> net.wallet(number));
        }
        for (int number : new int[] {-1, 4, Integer.MIN_VALUE, Integer.MAX_VALUE}) {
            CHECKS.noIndex("share got", () -> net.share(number, false));
            CHECKS.noIndex("share due", () -> net.share(number, true));
        }
        CHECKS.equal("due of the last plate", 0, net.due(9));
        CHECKS.equal("billed of the last plate", 0, net.billed(9));
        CHECKS.equal("own of the last plate", 0, net.own(9));
        CHECKS.equal("the last wallet", 0, net.wallet(5));
        CHECKS.equal("the last owner", 0, net.share(3, false));
    }
}
