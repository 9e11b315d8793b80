import java.util.ArrayList;
import java.util.List;
import java.util.Random;

/** Long runs of calls, drawn with fixed seeds, with the answers of the reference beside them. */
public final class RandomRunsTest {
    /** The answer of a call; a refused one throws. */
    private interface Call {
        Object answer();
    }

    private static final int RUNS = 3000;
    private static final int CALLS = 511;
    private static final int[] SLIPS = {
        -1, -2, 0, 1, 2, 3, 4, 5, 6, 8, 9, 10, 11, 12, 20, 24, 50, 51, 100, 101, 300, 301, 1440,
        1441, 100000, 100001, Integer.MAX_VALUE, Integer.MIN_VALUE, Integer.MIN_VALUE + 1};
    private static final Checks CHECKS = new Checks("RandomRunsTest");

    private final Random random;
    private final Tollweave net = new Tollweave();
    private final Reference due = new Reference();
    private final List<String> told = new ArrayList<>();
    private final int plates;
    private final int slipsOf100;
    private final int longest;
    private boolean isRight = true;

    private RandomRunsTest(long seed) {
        random = new Random(seed);
        plates = 1 + random.nextInt(random.nextBoolean() ? 3 : 10);
        slipsOf100 = random.nextInt(3) * 2;
        longest = random.nextBoolean() ? 8 : 50;
    }

    public static void main(String[] args) {
        for (long seed = 0; seed < RUNS; seed++) {
            RandomRunsTest run = new RandomRunsTest(seed);
            for (int call = 0; call < CALLS && run.isRight; call++) {
                run.next(call);
            }
            CHECKS.isTrue("run " + seed + ": " + String.join("; ", run.told), run.isRight);
            if (!run.isRight) {
                break;
            }
        }
        CHECKS.end();
    }

    private int slip(int value) {
        return random.nextInt(100) < slipsOf100 ? SLIPS[random.nextInt(SLIPS.length)] : value;
    }

    private int below(int bound) {
        return slip(random.nextInt(Math.max(1, bound)));
    }

    private int anyGate() {
        return below(due.gates);
    }

    private int anyPlate() {
        return below(plates);
    }

    private void next(int call) {
        if (call < 40 ? random.nextInt(3) > 0 : random.nextInt(12) == 0) {
            build();
        } else if (random.nextInt(100) < 45) {
            use();
        } else {
            ask();
        }
    }

    private void build() {
        int a = anyGate();
        int b = anyGate();
        int c = slip(1 + random.nextInt(longest));
        int d = below(4);
        switch (random.nextInt(7)) {
            case 0, 1 -> check("gate()", net::gate, due::gate);
            case 2, 3, 4 -> check("road(" + a + ", " + b + ", " + c + ", " + d + ")",
                    () -> net.road(a, b, c, d), () -> due.road(a, b, c, d));
            case 5 -> {
                int kind = below(3);
                int rate = below(101);
                int percent = below(301);
                check("rate(" + kind + ", " + rate + ", " + percent + ")", () -> {
                    net.rate(kind, rate, percent);
                    return null;
                }, () -> due.rate(kind, rate, percent));
            }
            default -> {
                int cents = below(random.nextBoolean() ? 1000 : 100001);
                check("most(" + cents + ")", () -> net.most(cents), () -> due.most(cents));
            }
        }
    }

    private void use() {
        int plate = anyPlate();
        switch (random.nextInt(16)) {
            case 0 -> {
                int kind = below(3);
                int holder = slip(random.nextInt(7) - 1);
                check("plate(" + plate + ", " + kind + ", " + holder + ")", () -> {
                    net.plate(plate, kind, holder);
                    return null;
                }, () -> due.plate(plate, kind, holder));
            }
            case 1 -> {
                int holder = below(6);
                int cents = slip(1 + random.nextInt(2000));
                check("top(" + holder + ", " + cents + ")", () -> net.top(holder, cents),
                        () -> due.top(holder, cents));
            }
            case 2 -> {
                int from = below(due.now + 1);
                int to = slip(from + random.nextInt(40));
                check("exempt(" + plate + ", " + from + ", " + to + ")",
                        () -> net.exempt(plate, from, to), () -> due.exempt(plate, from, to));
            }
            case 3 -> {
                int reading = below(due.readings.size());
                check("strike(" + reading + ")", () -> {
                    net.strike(reading);
                    return null;
                }, () -> due.strike(reading));
            }
            case 4, 5, 6 -> {
                int minutes = slip(1 + random.nextInt(random.nextInt(20) == 0 ? 1440 : 90));
                check("pass(" + minutes + ")", () -> net.pass(minutes), () -> due.pass(minutes));
            }
            case 7 -> check("bill()", net::bill, due::bill);
            default -> read(plate);
        }
    }

    /** Mostly not long behind or ahead of another reading, so that journeys go on. */
    private void read(int plate) {
        int gate = anyGate();
        int around = due.now - random.nextInt(120);
        if (!due.readings.isEmpty() && random.nextInt(4) > 0) {
            Reference.Reading other =
                    due.readings.get(random.nextInt(due.readings.size()));
            around = other.minute + random.nextInt(random.nextBoolean() ? 70 : 14) - 6;
        }
        int minute = slip(Math.max(0, Math.min(due.now, around)));
        check("read(" + gate + ", " + plate + ", " + minute + ")",
                () -> net.read(gate, plate, minute), () -> due.read(gate, plate, minute));
    }

    private void ask() {
        int plate = anyPlate();
        int one = anyGate();
        int other = anyGate();
        switch (random.nextInt(14)) {
            case 0 -> check("distance(" + one + ", " + other + ")",
                    () -> net.distance(one, other), () -> due.distance(one, other));
            case 1, 2 -> {
                int place = below(5);
                check("way(" + one + ", " + other + ", " + place + ")",
                        () -> net.way(one, other, place), () -> due.way(one, other, place));
            }
            case 3 -> check("journeys(" + plate + ")",
                    () -> net.journeys(plate), () -> due.journeys(plate));
            case 4, 5, 6 -> {
                Object count = due.journeys(plate);
                int journey = below(count instanceof Long number ? number.intValue() : 2);
                int what = below(9);
                check("journey(" + plate + ", " + journey + ", " + what + ")",
                        () -> net.journey(plate, journey, what),
                        () -> due.journey(plate, journey, what));
            }
            case 7, 8 -> {
                int reading = below(due.readings.size());
                int what = below(6);
                check("ofReading(" + reading + ", " + what + ")",
                        () -> net.ofReading(reading, what), () -> due.ofReading(reading, what));
            }
            case 9 -> check("due(" + plate + ")", () -> net.due(plate), () -> due.due(plate));
            case 10 -> check("billed(" + plate + ")",
                    () -> net.billed(plate), () -> due.billed(plate));
            case 11 -> {
                int holder = below(6);
                check("wallet(" + holder + ")",
                        () -> net.wallet(holder), () -> due.wallet(holder));
            }
            case 12 -> check("own(" + plate + ")", () -> net.own(plate), () -> due.own(plate));
            default -> {
                int owner = below(4);
                boolean isDue = random.nextBoolean();
                check("share(" + owner + ", " + isDue + ")",
                        () -> net.share(owner, isDue), () -> due.share(owner, isDue));
            }
        }
    }

    private void check(String call, Call got, Call want) {
        Object is;
        try {
            Object answer = got.answer();
            is = answer instanceof Integer number ? (Object) number.longValue() : answer;
        } catch (RuntimeException e) {
            is = e.getClass().getSimpleName();
        }
        Object wanted = want.answer();
        told.add(call + " -> " + is);
        if (is == null ? wanted != null : !is.equals(wanted)) {
            told.add("due is " + wanted);
            isRight = false;
        }
    }
}
