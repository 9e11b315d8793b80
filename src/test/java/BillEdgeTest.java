/** The sentences of 'Fares' on what is due and billed, and promises 5 to 7, 12 and 18 to 22. */
public final class BillEdgeTest {
    private static final Checks CHECKS = new Checks("BillEdgeTest");

    public static void main(String[] args) {
        dueOfAllThatAreOver();
        dueByReadings();
        dueByRoads();
        dueByRates();
        dueByTheMost();
        dueBySpans();
        dueByClass();
        dueByMinutes();
        dueWhateverWasBilled();
        takenFromTheHolder();
        takenFromThePlate();
        takenBelowZero();
        paidBack();
        paidBackToThePlate();
        billedStaysBilled();
        nothingToBill();
        billOfAll();
        gotIsWhatIsDueThen();
        gotByOverOnly();
        dueToOwnersIsDueOfPlates();
        mostBefore();
        tops();
        greatestSums();
        CHECKS.end();
    }

    /** 0 -10- 1 of owner 0, 1 -5- 2 of owner 1, and now is 1000. */
    private static Tollweave line() {
        Tollweave net = Checks.withGates(3);
        net.road(0, 1, 10, 0);
        net.road(1, 2, 5, 1);
        net.pass(1000);
        return net;
    }

    /** A journey of 150 cents. */
    private static void gone(Tollweave net, int plate, int minute) {
        net.read(0, plate, minute);
        net.read(2, plate, minute + 15);
    }

    private static void due(Tollweave net, int plate, long due) {
        CHECKS.equal("due of " + plate, due, net.due(plate));
        long shares = net.share(0, true) + net.share(1, true) + net.share(2, true)
                + net.share(3, true);
        CHECKS.equal("due to the owners", due, shares);
    }

    /** "the sum of the fares of all its journeys that are over" */
    private static void dueOfAllThatAreOver() {
        Tollweave net = line();
        due(net, 0, 0);
        gone(net, 0, 0);
        due(net, 0, 150);
        gone(net, 0, 300);
        due(net, 0, 300);
        gone(net, 0, 600);
        due(net, 0, 450);
        // It begins in a busy hour.
        gone(net, 0, 985);
        due(net, 0, 450);
        CHECKS.equal("journeys", 4, net.journeys(0));
        net.pass(59);
        due(net, 0, 450);
        net.pass(1);
        due(net, 0, 450 + 225);
    }

    /** "by readings ... as they are now": late ones, and struck ones. */
    private static void dueByReadings() {
        Tollweave net = line();
        net.read(2, 0, 115);
        due(net, 0, 0);
        net.read(0, 0, 100);
        due(net, 0, 150);
        net.read(0, 0, 109);
        due(net, 0, 0);
        net.strike(2);
        due(net, 0, 150);
        net.strike(0);
        due(net, 0, 0);
    }

    private static void dueByRoads() {
        Tollweave net = line();
        gone(net, 0, 100);
        net.road(0, 2, 16, 2);
        due(net, 0, 150);
        net.road(0, 2, 15, 2);
        due(net, 0, 150);
        CHECKS.equal("the lower road still", 0, net.share(2, true));
        net.road(0, 2, 14, 3);
        due(net, 0, 140);
        CHECKS.equal("the shorter road", 140, net.share(3, true));
        net.road(0, 2, 1, 3);
        due(net, 0, 0);
        CHECKS.equal("too slow for it", 2, net.journeys(0));
    }

    private static void dueByRates() {
        Tollweave net = line();
        gone(net, 0, 100);
        gone(net, 0, 420);
        due(net, 0, 150 + 225);
        net.rate(1, 100, 300);
        net.rate(2, 100, 300);
        due(net, 0, 150 + 225);
        net.rate(0, 20, 150);
        due(net, 0, 300 + 450);
        net.rate(0, 20, 100);
        due(net, 0, 300 + 300);
        net.rate(0, 0, 300);
        due(net, 0, 0);
        net.rate(0, 10, 0);
        due(net, 0, 150);
    }

    private static void dueByTheMost() {
        Tollweave net = line();
        gone(net, 0, 100);
        gone(net, 0, 400);
        net.most(149);
        due(net, 0, 298);
        net.most(150);
        due(net, 0, 300);
        net.most(0);
        due(net, 0, 0);
        net.most(100000);
        due(net, 0, 300);
    }

    private static void dueBySpans() {
        Tollweave net = line();
        gone(net, 0, 100);
        net.exempt(0, 101, 1000);
        due(net, 0, 150);
        net.exempt(0, 0, 99);
        due(net, 0, 150);
        net.exempt(0, 100, 100);
        due(net, 0, 0);
    }

    private static void dueByClass() {
        Tollweave net = line();
        net.rate(1, 20, 150);
        net.rate(2, 30, 150);
        gone(net, 0, 100);
        net.plate(0, 2, 0);
        due(net, 0, 450);
        net.plate(0, 1, 0);
        due(net, 0, 300);
        net.plate(0, 0, 0);
        due(net, 0, 150);
    }

    /** A journey that was over is not, when a late reading goes on with it. */
    private static void dueByMinutes() {
        Tollweave net = line();
        net.read(0, 0, 920);
        net.read(1, 0, 930);
        due(net, 0, 100);
        net.read(2, 0, 941);
        due(net, 0, 0);
        net.pass(1);
        due(net, 0, 150);
    }

    /** "whatever was billed" */
    private static void dueWhateverWasBilled() {
        Tollweave net = line();
        gone(net, 0, 100);
        for (int bill = 0; bill < 3; bill++) {
            due(net, 0, 150);
            CHECKS.equal("bill", bill == 0 ? 150 : 0, net.bill());
            CHECKS.equal("billed", 150, net.billed(0));
        }
    }

    /** "from the wallet of its holder": of each holder, and of no other. */
    private static void takenFromTheHolder() {
        for (int holder = 0; holder < 6; holder++) {
            Tollweave net = line();
            net.plate(9, 0, holder);
            gone(net, 9, 100);
            CHECKS.equal("bill", 150, net.bill());
            for (int each = 0; each < 6; each++) {
                CHECKS.equal("wallet", each == holder ? -150 : 0, net.wallet(each));
            }
            CHECKS.equal("own", 0, net.own(9));
            CHECKS.equal("billed", 150, net.billed(9));
        }
    }

    /** "without a holder, from what the plate itself has, 0 at first" */
    private static void takenFromThePlate() {
        for (int plate = 0; plate < 10; plate++) {
            Tollweave net = line();
            net.plate(plate, 0, Tollweave.NONE);
            gone(net, plate, 100);
            CHECKS.equal("bill", 150, net.bill());
            for (int each = 0; each < 10; each++) {
                CHECKS.equal("own", each == plate ? -150 : 0, net.own(each));
                CHECKS.equal("billed", each == plate ? 150 : 0, net.billed(each));
            }
            for (int holder = 0; holder < 6; holder++) {
                CHECKS.equal("wallet", 0, net.wallet(holder));
            }
        }
    }

    /** "by which that may be below 0": from 1 above, from just what is due, and from 1 below. */
    private static void takenBelowZero() {
        for (int cents = 149; cents <= 151; cents++) {
            Tollweave net = line();
            net.plate(0, 0, 3);
            CHECKS.equal("top", cents, net.top(3, cents));
            gone(net, 0, 100);
            CHECKS.equal("all is taken", 150, net.bill());
            CHECKS.equal("the wallet", cents - 150, net.wallet(3));
            CHECKS.equal("nothing from the plate", 0, net.own(0));
            gone(net, 0, 400);
            CHECKS.equal("from a debt, too", 150, net.bill());
            CHECKS.equal("the wallet", cents - 300, net.wallet(3));
        }
    }

    /** "if that is below 0, it is paid back" */
    private static void paidBack() {
        Tollweave net = line();
        net.plate(0, 0, 3);
        gone(net, 0, 100);
        net.bill();
        net.most(149);
        CHECKS.equal("one cent is paid back", -1, net.bill());
        CHECKS.equal("to the wallet", -149, net.wallet(3));
        CHECKS.equal("billed less that", 149, net.billed(0));
        net.plate(0, 0, 4);
        net.most(0);
        CHECKS.equal("all is paid back", -149, net.bill());
        CHECKS.equal("to the holder now", 149, net.wallet(4));
        CHECKS.equal("not to the one of before", -149, net.wallet(3));
        CHECKS.equal("billed", 0, net.billed(0));
        CHECKS.equal("nothing more", 0, net.bill());
    }

    /** "0 or below, or more by what was paid back" */
    private static void paidBackToThePlate() {
        Tollweave net = line();
        gone(net, 5, 100);
        CHECKS.equal("0 at first", 0, net.own(5));
        net.bill();
        CHECKS.equal("below 0", -150, net.own(5));
        net.most(50);
        net.bill();
        CHECKS.equal("more by 100", -50, net.own(5));
        net.plate(5, 0, 0);
        net.most(5000);
        net.bill();
        CHECKS.equal("the holder pays the 100", -100, net.wallet(0));
        CHECKS.equal("the plate as it was", -50, net.own(5));
        net.plate(5, 0, Tollweave.NONE);
        net.strike(0);
        CHECKS.equal("all is paid back", -150, net.bill());
        CHECKS.equal("above 0", 100, net.own(5));
        CHECKS.equal("the holder as it was", -100, net.wallet(0));
    }

    /** "what was billed stays billed" */
    private static void billedStaysBilled() {
        Tollweave net = line();
        gone(net, 0, 100);
        net.bill();
        for (int holder = Tollweave.NONE; holder < 6; holder++) {
            net.plate(0, 0, holder);
            CHECKS.equal("billed", 150, net.billed(0));
            CHECKS.equal("own", -150, net.own(0));
            CHECKS.equal("another bill takes nothing", 0, net.bill());
        }
        for (int holder = 0; holder < 6; holder++) {
            CHECKS.equal("wallet", 0, net.wallet(holder));
        }
    }

    private static void nothingToBill() {
        Tollweave net = line();
        net.top(0, 7);
        net.plate(0, 0, 0);
        net.read(0, 0, 1000);
        CHECKS.equal("a journey that is not over", 0, net.bill());
        CHECKS.equal("the wallet", 7, net.wallet(0));
        net.pass(60);
        CHECKS.equal("a journey of one reading", 0, net.bill());
        CHECKS.equal("the wallet", 7, net.wallet(0));
        CHECKS.equal("billed", 0, net.billed(0));
    }

    /** "what is taken from all, less what is paid back, together" */
    private static void billOfAll() {
        Tollweave net = line();
        for (int plate = 0; plate < 10; plate++) {
            net.plate(plate, 0, plate % 7 - 1);
            gone(net, plate, 100);
        }
        CHECKS.equal("of ten plates", 1500, net.bill());
        CHECKS.equal("of two plates each", -300, net.wallet(0));
        CHECKS.equal("and", -300, net.wallet(1));
        CHECKS.equal("of one each", -150, net.wallet(5));
        CHECKS.equal("of none", -150, net.own(0));
        CHECKS.equal("of none, too", -150, net.own(7));
        net.strike(0);
        gone(net, 9, 300);
        CHECKS.equal("as much is paid back as taken", 0, net.bill());
        CHECKS.equal("paid back", 0, net.own(0));
        CHECKS.equal("taken", -450, net.wallet(1));
        net.strike(2);
        net.strike(4);
        gone(net, 3, 300);
        CHECKS.equal("more is paid back than taken", -150, net.bill());
    }

    /** "What each owner has got is what is due to it then." */
    private static void gotIsWhatIsDueThen() {
        Tollweave net = line();
        CHECKS.equal("nothing ahead of all bills", 0, net.share(0, false));
        gone(net, 0, 100);
        CHECKS.equal("due", 100, net.share(0, true));
        CHECKS.equal("not got yet", 0, net.share(0, false));
        net.bill();
        CHECKS.equal("got", 100, net.share(0, false));
        CHECKS.equal("and due still", 100, net.share(0, true));
        gone(net, 1, 100);
        CHECKS.equal("more is due", 200, net.share(0, true));
        CHECKS.equal("got as before", 100, net.share(0, false));
        net.bill();
        CHECKS.equal("got, not once more", 200, net.share(0, false));
        net.bill();
        CHECKS.equal("nor by a bill of nothing", 200, net.share(0, false));
        net.strike(0);
        net.strike(2);
        CHECKS.equal("nothing is due", 0, net.share(0, true));
        CHECKS.equal("got until the bill", 200, net.share(0, false));
        net.bill();
        CHECKS.equal("got no more", 0, net.share(0, false));
    }

    private static void gotByOverOnly() {
        Tollweave net = line();
        gone(net, 0, 926);
        net.bill();
        CHECKS.equal("59 minutes ago", 0, net.share(0, false));
        net.pass(1);
        CHECKS.equal("over, not billed", 0, net.share(0, false));
        net.bill();
        CHECKS.equal("over and billed", 100, net.share(0, false));
        CHECKS.equal("of the other owner", 50, net.share(1, false));
    }

    /** What is due of all plates is due to all owners, cut or not. */
    private static void dueToOwnersIsDueOfPlates() {
        for (int most = 0; most <= 151; most++) {
            Tollweave net = line();
            for (int plate = 0; plate < 10; plate++) {
                gone(net, plate, 100 + plate);
            }
            net.most(most);
            long due = 10L * Math.min(150, most);
            CHECKS.equal("due to both", due, net.share(0, true) + net.share(1, true));
            long second = most < 150 ? 10L * (50 * most / 150) : 500;
            CHECKS.equal("due to owner 1", second, net.share(1, true));
            CHECKS.equal("bill", due, net.bill());
            CHECKS.equal("owner 1 has got", second, net.share(1, false));
            CHECKS.equal("owner 0 has got", due - second, net.share(0, false));
        }
    }

    /** "Returns the most before." */
    private static void mostBefore() {
        Tollweave net = new Tollweave();
        CHECKS.equal("at first", 5000, net.most(0));
        CHECKS.equal("the least", 0, net.most(100000));
        CHECKS.equal("the greatest", 100000, net.most(100000));
        CHECKS.equal("the same again", 100000, net.most(1));
        CHECKS.noArgument("refused", () -> net.most(100001));
        CHECKS.equal("not the refused one", 1, net.most(5000));
    }

    /** "Returns what it has then." */
    private static void tops() {
        Tollweave net = line();
        long due = 0;
        for (int cents : new int[] {1, 100000, 99999, 1}) {
            due += cents;
            CHECKS.equal("top", due, net.top(5, cents));
            CHECKS.equal("wallet", due, net.wallet(5));
        }
        net.plate(0, 0, 2);
        gone(net, 0, 100);
        net.bill();
        CHECKS.equal("a debt less by 1", -149, net.top(2, 1));
        CHECKS.equal("a debt to 0", 0, net.top(2, 149));
        CHECKS.equal("above 0", 1, net.top(2, 1));
        CHECKS.equal("the other wallet", due, net.wallet(5));
    }

    /** 50 journeys of the greatest most, of all plates, and of one holder. */
    private static void greatestSums() {
        Tollweave net = Checks.withGates(12);
        for (int gate = 0; gate < 11; gate++) {
            net.road(gate, gate + 1, 50, 3);
        }
        for (int day = 0; day < 16; day++) {
            net.pass(1440);
        }
        net.most(100000);
        net.rate(2, 100, 300);
        for (int plate = 0; plate < 10; plate++) {
            net.plate(plate, 2, 5);
            for (int journey = 0; journey < 5; journey++) {
                net.read(0, plate, 420 + 2 * 1440 * journey);
                net.read(11, plate, 970 + 2 * 1440 * journey);
            }
        }
        CHECKS.equal("due of a plate", 500000, net.due(9));
        CHECKS.equal("due to the owner", 5000000, net.share(3, true));
        CHECKS.equal("bill", 5000000, net.bill());
        CHECKS.equal("the wallet", -5000000, net.wallet(5));
        CHECKS.equal("the owner has got", 5000000, net.share(3, false));
        net.most(0);
        CHECKS.equal("all is paid back", -5000000, net.bill());
        CHECKS.equal("the wallet again", 0, net.wallet(5));
    }
}
