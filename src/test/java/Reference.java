import java.math.BigInteger;
import java.util.ArrayList;
import java.util.Comparator;
import java.util.List;
import java.util.TreeMap;

/**
 * The document once more, written for plainness with the Java library and without a look at the
 * class under test. A refused call answers the name of the exception that is due.
 */
final class Reference {
    record Road(int number, int one, int other, int length, int owner) { }

    record Span(int plate, int from, int to) { }

    static final class Reading {
        int number;
        int gate;
        int plate;
        int minute;
        boolean struck;
    }

    static final class Journey {
        final List<Reading> counting = new ArrayList<>();
        final List<Reading> doubles = new ArrayList<>();
    }

    static final String INDEX = "IndexOutOfBoundsException";
    static final String ARGUMENT = "IllegalArgumentException";
    static final String STATE = "IllegalStateException";

    int gates = 0;
    int now = 0;
    int most = 5000;
    final int[] rate = {10, 10, 10};
    final int[] percent = {150, 150, 150};
    final int[] kind = new int[10];
    final int[] holder = {-1, -1, -1, -1, -1, -1, -1, -1, -1, -1};
    final List<Road> roads = new ArrayList<>();
    final List<Span> spans = new ArrayList<>();
    final List<Reading> readings = new ArrayList<>();
    final TreeMap<Integer, Long> wallets = new TreeMap<>();
    final TreeMap<Integer, Long> owns = new TreeMap<>();
    final TreeMap<Integer, Long> billeds = new TreeMap<>();
    final TreeMap<Integer, Long> gots = new TreeMap<>();

    private static boolean in(int value, int least, int greatest) {
        return least <= value && value <= greatest;
    }

    private boolean isGate(int gate) {
        return in(gate, 0, gates - 1);
    }

    Object gate() {
        return gates == 12 ? STATE : (Object) (long) gates++;
    }

    Object road(int one, int other, int length, int owner) {
        if (!isGate(one) || !isGate(other)) {
            return INDEX;
        }
        if (!in(length, 1, 50) || !in(owner, 0, 3) || one == other) {
            return ARGUMENT;
        }
        if (roads.size() == 24) {
            return STATE;
        }
        roads.add(new Road(roads.size(), one, other, length, owner));
        return roads.size() - 1L;
    }

    Object rate(int ofKind, int cents, int busy) {
        if (!in(ofKind, 0, 2) || !in(cents, 0, 100) || !in(busy, 0, 300)) {
            return ARGUMENT;
        }
        rate[ofKind] = cents;
        percent[ofKind] = busy;
        return null;
    }

    Object most(int cents) {
        if (!in(cents, 0, 100000)) {
            return ARGUMENT;
        }
        long before = most;
        most = cents;
        return before;
    }

    Object plate(int plate, int ofKind, int toHolder) {
        if (!in(plate, 0, 9)) {
            return INDEX;
        }
        if (!in(ofKind, 0, 2) || !in(toHolder, -1, 5)) {
            return ARGUMENT;
        }
        kind[plate] = ofKind;
        holder[plate] = toHolder;
        return null;
    }

    Object top(int ofHolder, int cents) {
        if (!in(ofHolder, 0, 5)) {
            return INDEX;
        }
        return in(cents, 1, 100000) ? (Object) wallets.merge(ofHolder, (long) cents, Long::sum)
                : ARGUMENT;
    }

    Object exempt(int plate, int from, int to) {
        if (!in(plate, 0, 9)) {
            return INDEX;
        }
        if (!in(from, 0, 100000) || !in(to, from, 100000)) {
            return ARGUMENT;
        }
        if (spans.size() == 20) {
            return STATE;
        }
        spans.add(new Span(plate, from, to));
        return (long) spans.size();
    }

    Object read(int gate, int plate, int minute) {
        if (!isGate(gate) || !in(plate, 0, 9)) {
            return INDEX;
        }
        if (!in(minute, 0, now)) {
            return ARGUMENT;
        }
        if (readings.size() == 100) {
            return STATE;
        }
        Reading reading = new Reading();
        reading.number = readings.size();
        reading.gate = gate;
        reading.plate = plate;
        reading.minute = minute;
        readings.add(reading);
        return (long) reading.number;
    }

    Object strike(int reading) {
        if (!in(reading, 0, readings.size() - 1)) {
            return INDEX;
        }
        if (readings.get(reading).struck) {
            return STATE;
        }
        readings.get(reading).struck = true;
        return null;
    }

    Object pass(int minutes) {
        if (!in(minutes, 1, 1440)) {
            return ARGUMENT;
        }
        if (now + minutes > 100000) {
            return STATE;
        }
        now += minutes;
        return (long) now;
    }

    Object bill() {
        long together = 0;
        for (int plate = 0; plate < 10; plate++) {
            long more = dueOf(plate) - billeds.getOrDefault(plate, 0L);
            billeds.merge(plate, more, Long::sum);
            if (holder[plate] == -1) {
                owns.merge(plate, -more, Long::sum);
            } else {
                wallets.merge(holder[plate], -more, Long::sum);
            }
            together += more;
        }
        for (int owner = 0; owner < 4; owner++) {
            gots.put(owner, dueTo(owner));
        }
        return together;
    }

    Object distance(int one, int other) {
        return isGate(one) && isGate(other) ? (Object) (long) least(one, other) : INDEX;
    }

    Object way(int one, int other, int place) {
        if (!isGate(one) || !isGate(other) || place < 0) {
            return INDEX;
        }
        List<Road> way = wayOf(one, other);
        return place < way.size() ? (long) way.get(place).number() : -1L;
    }

    Object journeys(int plate) {
        return in(plate, 0, 9) ? (Object) (long) journeysOf(plate).size() : INDEX;
    }

    Object journey(int plate, int number, int what) {
        if (!in(plate, 0, 9) || !in(number, 0, journeysOf(plate).size() - 1)) {
            return INDEX;
        }
        if (!in(what, 0, 8)) {
            return ARGUMENT;
        }
        Journey journey = journeysOf(plate).get(number);
        return switch (what) {
            case 0 -> (long) journey.counting.get(0).minute;
            case 1 -> (long) last(journey).minute;
            case 2 -> (long) journey.counting.size();
            case 3 -> Math.min(most, paidOf(journey, -1));
            case 4 -> isOver(journey) ? 1L : 0L;
            default -> shareOf(journey, what - 5);
        };
    }

    Object ofReading(int number, int what) {
        if (!in(number, 0, readings.size() - 1)) {
            return INDEX;
        }
        if (!in(what, 0, 5)) {
            return ARGUMENT;
        }
        Reading reading = readings.get(number);
        long journey = -1;
        long isDouble = 0;
        List<Journey> journeys = journeysOf(reading.plate);
        for (int at = 0; at < journeys.size(); at++) {
            if (journeys.get(at).counting.contains(reading)) {
                journey = at;
            } else if (journeys.get(at).doubles.contains(reading)) {
                journey = at;
                isDouble = 1;
            }
        }
        return switch (what) {
            case 0 -> (long) reading.gate;
            case 1 -> (long) reading.plate;
            case 2 -> (long) reading.minute;
            case 3 -> reading.struck ? 1L : 0L;
            case 4 -> isDouble;
            default -> journey;
        };
    }

    Object due(int plate) {
        return in(plate, 0, 9) ? (Object) dueOf(plate) : INDEX;
    }

    Object billed(int plate) {
        return in(plate, 0, 9) ? (Object) billeds.getOrDefault(plate, 0L) : INDEX;
    }

    Object wallet(int ofHolder) {
        return in(ofHolder, 0, 5) ? (Object) wallets.getOrDefault(ofHolder, 0L) : INDEX;
    }

    Object own(int plate) {
        return in(plate, 0, 9) ? (Object) owns.getOrDefault(plate, 0L) : INDEX;
    }

    Object share(int owner, boolean isDue) {
        if (!in(owner, 0, 3)) {
            return INDEX;
        }
        return isDue ? dueTo(owner) : (long) gots.getOrDefault(owner, 0L);
    }

    /** By rounds over all roads until nothing is less any more. */
    private int[] distancesTo(int goal) {
        int[] far = new int[gates];
        java.util.Arrays.fill(far, -1);
        far[goal] = 0;
        boolean changed = true;
        while (changed) {
            changed = false;
            for (Road road : roads) {
                changed |= relax(far, road.one(), road.other(), road.length());
                changed |= relax(far, road.other(), road.one(), road.length());
            }
        }
        return far;
    }

    private static boolean relax(int[] far, int from, int to, int length) {
        if (far[from] >= 0 && (far[to] < 0 || far[to] > far[from] + length)) {
            far[to] = far[from] + length;
            return true;
        }
        return false;
    }

    private int least(int one, int other) {
        return distancesTo(other)[one];
    }

    private List<Road> wayOf(int one, int goal) {
        List<Road> way = new ArrayList<>();
        int[] far = distancesTo(goal);
        int at = one;
        while (far[at] > 0) {
            for (Road road : roads) {
                if (road.one() != at && road.other() != at) {
                    continue;
                }
                int next = road.one() + road.other() - at;
                if (far[next] == far[at] - road.length()) {
                    way.add(road);
                    at = next;
                    break;
                }
            }
        }
        return way;
    }

    private List<Journey> journeysOf(int plate) {
        List<Journey> journeys = new ArrayList<>();
        List<Reading> ordered = new ArrayList<>(readings);
        ordered.removeIf(reading -> reading.struck || reading.plate != plate);
        ordered.sort(Comparator.comparing((Reading reading) -> reading.minute)
                .thenComparing(reading -> reading.number));
        for (Reading reading : ordered) {
            if (journeys.isEmpty()) {
                journeys.add(new Journey());
            } else {
                Reading ahead = last(journeys.get(journeys.size() - 1));
                int minutes = reading.minute - ahead.minute;
                if (ahead.gate == reading.gate && minutes <= 5) {
                    journeys.get(journeys.size() - 1).doubles.add(reading);
                    continue;
                }
                int distance = least(ahead.gate, reading.gate);
                if (distance < 0 || minutes < distance || minutes > 3 * distance + 10) {
                    journeys.add(new Journey());
                }
            }
            journeys.get(journeys.size() - 1).counting.add(reading);
        }
        return journeys;
    }

    private static Reading last(Journey journey) {
        return journey.counting.get(journey.counting.size() - 1);
    }

    private boolean isOver(Journey journey) {
        return last(journey).minute <= now - 60;
    }

    /** What is to be paid for the roads of an owner, or of all with -1. */
    private long paidOf(Journey journey, int owner) {
        long paid = 0;
        for (int leg = 1; leg < journey.counting.size(); leg++) {
            Reading former = journey.counting.get(leg - 1);
            boolean exempt = spans.stream().anyMatch(span -> span.plate() == former.plate
                    && in(former.minute, span.from(), span.to()));
            if (exempt) {
                continue;
            }
            int minuteOfDay = former.minute % 1440;
            boolean busy = in(minuteOfDay, 420, 539) || in(minuteOfDay, 960, 1079);
            int ofKind = kind[former.plate];
            for (Road road : wayOf(former.gate, journey.counting.get(leg).gate)) {
                if (owner == -1 || road.owner() == owner) {
                    paid += road.length() * rate[ofKind] * (busy ? percent[ofKind] : 100) / 100;
                }
            }
        }
        return paid;
    }

    private long shareOf(Journey journey, int owner) {
        long all = paidOf(journey, -1);
        if (all <= most) {
            return paidOf(journey, owner);
        }
        long left = most;
        int greatest = 3;
        long[] cut = new long[4];
        for (int each = 3; each >= 0; each--) {
            if (paidOf(journey, each) >= paidOf(journey, greatest)) {
                greatest = each;
            }
            cut[each] = BigInteger.valueOf(paidOf(journey, each))
                    .multiply(BigInteger.valueOf(most)).divide(BigInteger.valueOf(all)).longValue();
            left -= cut[each];
        }
        return cut[owner] + (owner == greatest ? left : 0);
    }

    private long dueOf(int plate) {
        return journeysOf(plate).stream().filter(this::isOver)
                .mapToLong(journey -> Math.min(most, paidOf(journey, -1))).sum();
    }

    private long dueTo(int owner) {
        long due = 0;
        for (int plate = 0; plate < 10; plate++) {
            for (Journey journey : journeysOf(plate)) {
                due += isOver(journey) ? shareOf(journey, owner) : 0;
            }
        }
        return due;
    }
}
