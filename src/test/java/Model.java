import java.util.ArrayDeque;
import java.util.ArrayList;
import java.util.HashMap;
import java.util.List;
import java.util.Map;
import java.util.NoSuchElementException;
import java.util.TreeMap;
import java.util.TreeSet;
import java.util.regex.Matcher;
import java.util.regex.Pattern;

/**
 * The document once more, in another way than FreightRater: regular expressions for texts, all partitions for
 * consolidations, a full copy of everything for undo. Only for comparison in ModelTest.
 */
final class Model {
    private static final String NUMBER = "[0-9]{1,4}";
    private static final String TEST = "-?(?:h[0-7]|[wnlz][<>=]" + NUMBER + ")";
    private static final String ROW = TEST + "(?:&" + TEST + ")*";
    private static final String CONDITION = ROW + "(?:\\|" + ROW + ")*";
    private static final String STATEMENT = "(?:z[1-9]:" + NUMBER + "-" + NUMBER + "|b[1-9]:" + NUMBER + "\\*" + NUMBER
            + "|m[1-9]:" + NUMBER + "|[dfsc]" + NUMBER + "|a[0-9]:" + NUMBER + "[%*]?(?:\\?" + CONDITION + ")?(?:![0-9])?|r[0-9])";
    private static final Pattern TEXT = Pattern.compile(STATEMENT + "(?:;" + STATEMENT + ")*", Pattern.DOTALL);
    private static final Pattern PARTS = Pattern.compile("a([0-9]):(" + NUMBER + ")([%*]?)(?:\\?([^!]*))?(?:!([0-9]))?");

    record Range(int first, int last, int zone) { }

    record Extra(int number, String kind, String condition, int excluded) { }

    record Piece(int a, int b, int c, int weight) { }

    static final class Tariff {
        int day;
        List<Range> ranges = new ArrayList<>();
        List<TreeMap<Integer, Integer>> breaks = new ArrayList<>();
        int[] minimum = new int[10];
        int divisor = 5000;
        int fuel;
        int stop;
        int capacity = 999;
        TreeMap<Integer, Extra> extras = new TreeMap<>();

        Tariff() {
            for (int i = 0; i < 10; i++) {
                breaks.add(new TreeMap<>());
            }
        }

        Tariff copy() {
            Tariff made = new Tariff();
            made.day = day;
            made.ranges.addAll(ranges);
            for (int i = 0; i < 10; i++) {
                made.breaks.get(i).putAll(breaks.get(i));
            }
            made.minimum = minimum.clone();
            made.divisor = divisor;
            made.fuel = fuel;
            made.stop = stop;
            made.capacity = capacity;
            made.extras.putAll(extras);
            return made;
        }

        int zone(int place) {
            int zone = 0;
            for (Range range : ranges) {
                if (range.first <= place && place <= range.last) {
                    zone = range.zone;
                }
            }
            return zone;
        }
    }

    static final class Load {
        int place;
        int day;
        int handlings;
        int customer;
        List<Piece> pieces = new ArrayList<>();
        int share = -1;

        Load copy() {
            Load made = new Load();
            made.place = place;
            made.day = day;
            made.handlings = handlings;
            made.customer = customer;
            made.pieces.addAll(pieces);
            made.share = share;
            return made;
        }
    }

    static final class All {
        List<Tariff> tariffs = new ArrayList<>();
        List<Load> loads = new ArrayList<>();
        TreeMap<Integer, Integer> steps = new TreeMap<>();
        int booked;

        All copy() {
            All made = new All();
            tariffs.forEach(tariff -> made.tariffs.add(tariff.copy()));
            loads.forEach(load -> made.loads.add(load.copy()));
            made.steps.putAll(steps);
            made.booked = booked;
            return made;
        }
    }

    record Result(int reason, int detail, int[] parts, int total) { }

    private All all = new All();
    private All snapshot;
    private final ArrayDeque<All> past = new ArrayDeque<>();
    private String input = "";
    private String paper = "";
    private int impossible = -1;
    private int[] kept;

    private void change() {
        past.addLast(all.copy());
        if (past.size() > 8) {
            past.removeFirst();
        }
    }

    private static void index(boolean fine) {
        if (!fine) {
            throw new IndexOutOfBoundsException();
        }
    }

    private static void argument(boolean fine) {
        if (!fine) {
            throw new IllegalArgumentException();
        }
    }

    private static void state(boolean fine) {
        if (!fine) {
            throw new IllegalStateException();
        }
    }

    private static void element(boolean fine) {
        if (!fine) {
            throw new NoSuchElementException();
        }
    }

    private static boolean in(int value, int low, int high) {
        return low <= value && value <= high;
    }

    private static int percent(long amount, int percentage) {
        return (int) Math.floorDiv(2 * amount * percentage + 100, 200L);
    }

    private Tariff tariff(int version) {
        index(in(version, 0, all.tariffs.size() - 1));
        return all.tariffs.get(version);
    }

    private Load load(int shipment) {
        index(in(shipment, 0, all.loads.size() - 1));
        return all.loads.get(shipment);
    }

    int makeVersion(int day, int from) {
        argument(in(day, 0, 999) && all.tariffs.stream().noneMatch(tariff -> tariff.day == day));
        index(in(from, -1, all.tariffs.size() - 1));
        state(all.tariffs.size() < 6);
        change();
        Tariff made = from < 0 ? new Tariff() : all.tariffs.get(from).copy();
        made.day = day;
        all.tariffs.add(made);
        return all.tariffs.size() - 1;
    }

    int feed(char character) {
        state(input.length() < 80);
        input += character;
        return input.length();
    }

    private static boolean begins(String start) {
        Matcher matcher = TEXT.matcher(start);
        return matcher.matches() || matcher.hitEnd();
    }

    int amend(int version) {
        String text = input;
        input = "";
        Tariff changed = tariff(version).copy();
        if (!TEXT.matcher(text).matches()) {
            int fault = 0;
            while (fault < text.length() && begins(text.substring(0, fault + 1))) {
                fault++;
            }
            return -100 - fault;
        }
        String[] statements = text.split(";");
        for (int i = 0; i < statements.length; i++) {
            if (!carryOut(changed, statements[i])) {
                impossible = i;
                throw new UnsupportedOperationException();
            }
        }
        change();
        all.tariffs.set(version, changed);
        return statements.length;
    }

    private static boolean carryOut(Tariff tariff, String statement) {
        char letter = statement.charAt(0);
        if (letter == 'a') {
            return setExtra(tariff, statement);
        }
        String[] numbers = statement.substring(1).split("[^0-9]");
        int[] n = new int[3];
        for (int i = 0; i < numbers.length; i++) {
            n[i] = Integer.parseInt(numbers[i]);
        }
        switch (letter) {
            case 'z':
                tariff.ranges.add(new Range(n[1], n[2], n[0]));
                return n[1] <= 999 && n[2] <= 999 && n[1] <= n[2] && tariff.ranges.size() <= 12;
            case 'b':
                TreeMap<Integer, Integer> breaks = tariff.breaks.get(n[0]);
                if (n[2] == 0) {
                    return breaks.remove(n[1]) != null;
                }
                breaks.put(n[1], n[2]);
                return n[2] <= 99 && breaks.size() <= 5;
            case 'm':
                tariff.minimum[n[0]] = n[1];
                return true;
            case 'd':
                tariff.divisor = n[0];
                return n[0] >= 1000;
            case 'f':
                tariff.fuel = n[0];
                return n[0] <= 99;
            case 's':
                tariff.stop = n[0];
                return true;
            case 'c':
                tariff.capacity = n[0];
                return true;
            default:
                return tariff.extras.remove(n[0]) != null;
        }
    }

    private static boolean setExtra(Tariff tariff, String statement) {
        Matcher parts = PARTS.matcher(statement);
        if (!parts.matches()) {
            throw new AssertionError(statement);
        }
        int number = Integer.parseInt(parts.group(2));
        int excluded = parts.group(5) == null ? -1 : Integer.parseInt(parts.group(5));
        tariff.extras.put(Integer.parseInt(parts.group(1)), new Extra(number, parts.group(3), parts.group(4), excluded));
        return !(parts.group(3).equals("*") && number > 99) && !(parts.group(3).equals("%") && number > 50);
    }

    int impossible() {
        element(impossible >= 0);
        return impossible;
    }

    int versionOn(int day) {
        argument(in(day, 0, 999));
        int found = versionFor(day);
        element(found >= 0);
        return found;
    }

    private int versionFor(int day) {
        for (int first = day; first >= 0; first--) {
            for (int i = 0; i < all.tariffs.size(); i++) {
                if (all.tariffs.get(i).day == first) {
                    return i;
                }
            }
        }
        return -1;
    }

    int version(int version, int what) {
        Tariff t = tariff(version);
        argument(in(what, 0, 7));
        int set = t.extras.keySet().stream().mapToInt(a -> 1 << a).sum();
        int breaks = t.breaks.stream().mapToInt(Map::size).sum();
        return new int[] {t.day, t.ranges.size(), t.divisor, t.fuel, t.stop, t.capacity, set, breaks}[what];
    }

    int zoneOf(int version, int place) {
        Tariff t = tariff(version);
        index(in(place, 0, 999));
        element(t.zone(place) > 0);
        return t.zone(place);
    }

    int breakOf(int version, int zone, int i, boolean isRate) {
        Tariff t = tariff(version);
        index(in(zone, 1, 9));
        TreeMap<Integer, Integer> breaks = t.breaks.get(zone);
        index(in(i, -1, breaks.size() - 1));
        if (i < 0) {
            return isRate ? t.minimum[zone] : breaks.size();
        }
        Integer weight = new ArrayList<>(breaks.keySet()).get(i);
        return isRate ? breaks.get(weight) : weight;
    }

    private Extra extra(int version, int accessorial) {
        Tariff t = tariff(version);
        element(t.extras.containsKey(accessorial));
        return t.extras.get(accessorial);
    }

    int accessorial(int version, int accessorial, int what) {
        Extra extra = extra(version, accessorial);
        argument(in(what, 0, 4));
        int rows = extra.condition == null ? 0 : extra.condition.split("\\|").length;
        int tests = extra.condition == null ? 0 : extra.condition.split("[|&]").length;
        return new int[] {extra.number, extra.kind.isEmpty() ? 0 : extra.kind.equals("*") ? 1 : 2, rows, tests, extra.excluded}[what];
    }

    /** Amount, paid weight, weight of the break. */
    private static int[] cheapest(Tariff t, int zone, int weight) {
        int[] best = null;
        for (Map.Entry<Integer, Integer> entry : t.breaks.get(zone).descendingMap().entrySet()) {
            int paid = Math.max(weight, entry.getKey());
            if (best == null || paid * entry.getValue() <= best[0]) {
                best = new int[] {paid * entry.getValue(), paid, entry.getKey()};
            }
        }
        return best;
    }

    int base(int version, int zone, int weight) {
        Tariff t = tariff(version);
        index(in(zone, 1, 9));
        argument(in(weight, 0, 99999));
        element(!t.breaks.get(zone).isEmpty());
        return Math.max(t.minimum[zone], cheapest(t, zone, weight)[0]);
    }

    int ship(int place, int day, int handlings, int customer) {
        argument(in(place, 0, 999) && in(day, 0, 999) && in(handlings, 0, 255) && in(customer, 0, 3));
        state(all.loads.size() < 10);
        change();
        Load made = new Load();
        made.place = place;
        made.day = day;
        made.handlings = handlings;
        made.customer = customer;
        all.loads.add(made);
        return all.loads.size() - 1;
    }

    int pack(int shipment, int length, int width, int height, int weight) {
        Load load = load(shipment);
        argument(in(length, 1, 200) && in(width, 1, 200) && in(height, 1, 200) && in(weight, 1, 999));
        state(load.share < 0 && load.pieces.size() < 5);
        change();
        load.pieces.add(new Piece(length, width, height, weight));
        return load.pieces.size();
    }

    int route(int shipment, int place, int day) {
        Load load = load(shipment);
        argument(in(place, 0, 999) && in(day, 0, 999));
        state(load.share < 0);
        change();
        int previous = load.place;
        load.place = place;
        load.day = day;
        return previous;
    }

    int handle(int shipment, int handlings) {
        Load load = load(shipment);
        argument(in(handlings, 0, 255));
        state(load.share < 0);
        change();
        int previous = load.handlings;
        load.handlings = handlings;
        return previous;
    }

    int shipment(int shipment, int what) {
        Load l = load(shipment);
        argument(in(what, 0, 8));
        int weight = l.pieces.stream().mapToInt(Piece::weight).sum();
        int products = l.pieces.stream().mapToInt(p -> p.a * p.b * p.c).sum();
        return new int[] {l.place, l.day, l.handlings, l.customer, l.pieces.size(), weight, products, longest(l), l.share}[what];
    }

    private static int longest(Load load) {
        TreeSet<Integer> sides = new TreeSet<>(List.of(0));
        load.pieces.forEach(piece -> sides.addAll(new TreeSet<>(java.util.Arrays.asList(piece.a, piece.b, piece.c))));
        return sides.last();
    }

    private static List<Integer> members(int set) {
        List<Integer> members = new ArrayList<>();
        for (int s = 0; s < 32; s++) {
            if ((set & 1 << s) != 0) {
                members.add(s);
            }
        }
        return members;
    }

    private void exists(int set) {
        index(set != 0);
        members(set).forEach(s -> index(s < all.loads.size()));
    }

    private static Result refused(int reason, int detail) {
        return new Result(reason, detail, null, 0);
    }

    private Result result(int group) {
        List<Integer> members = members(group);
        Load lowest = all.loads.get(members.get(0));
        for (int s : members) {
            if (all.loads.get(s).pieces.isEmpty()) {
                return refused(1, s);
            }
        }
        for (int s : members) {
            if (all.loads.get(s).day != lowest.day) {
                return refused(2, s);
            }
        }
        int version = versionFor(lowest.day);
        if (version < 0) {
            return refused(3, lowest.day);
        }
        Tariff t = all.tariffs.get(version);
        for (int s : members) {
            if (t.zone(all.loads.get(s).place) == 0) {
                return refused(4, s);
            }
        }
        int zone = t.zone(lowest.place);
        for (int s : members) {
            if (t.zone(all.loads.get(s).place) != zone) {
                return refused(5, s);
            }
        }
        if (t.breaks.get(zone).isEmpty()) {
            return refused(6, zone);
        }
        int real = 0;
        int dimensional = 0;
        int pieces = 0;
        int longest = 0;
        int handlings = 0;
        for (int s : members) {
            Load load = all.loads.get(s);
            for (Piece piece : load.pieces) {
                real += piece.weight;
                dimensional += (int) Math.ceil((double) (piece.a * piece.b * piece.c) / t.divisor);
                pieces++;
            }
            longest = Math.max(longest, longest(load));
            handlings |= load.handlings;
        }
        int weight = Math.max(real, dimensional);
        if (members.size() >= 2 && weight > t.capacity) {
            return refused(7, weight);
        }
        for (int s : members) {
            for (int other : members) {
                int one = all.loads.get(s).handlings;
                int two = all.loads.get(other).handlings;
                if (s != other && ((one & 1) != 0 && (two & 2) != 0 || (one & 2) != 0 && (two & 1) != 0)) {
                    return refused(8, s);
                }
            }
        }
        return charged(t, version, members.size(), new int[] {weight, pieces, longest, zone, handlings});
    }

    private static Result charged(Tariff t, int version, int count, int[] facts) {
        int weight = facts[0];
        int zone = facts[3];
        int[] cheapest = cheapest(t, zone, weight);
        int base = Math.max(cheapest[0], t.minimum[zone]);
        int extras = 0;
        TreeSet<Integer> counting = new TreeSet<>();
        for (int a : t.extras.keySet()) {
            Extra extra = t.extras.get(a);
            boolean isExcluded = counting.stream().anyMatch(lower -> t.extras.get(lower).excluded == a);
            if (!isExcluded && (extra.condition == null || holds(extra.condition, facts))) {
                counting.add(a);
                extras += extra.kind.equals("*") ? extra.number * weight
                        : extra.kind.equals("%") ? percent(base, extra.number) : extra.number;
            }
        }
        int stops = t.stop * (count - 1);
        int fuel = percent((long) base + extras + stops, t.fuel);
        int set = counting.stream().mapToInt(a -> 1 << a).sum();
        int[] parts = {base, extras, stops, fuel, weight, cheapest[1], cheapest[2], set, zone, version};
        return new Result(0, 0, parts, base + extras + stops + fuel);
    }

    private static boolean holds(String condition, int[] facts) {
        for (String row : condition.split("\\|")) {
            boolean all = true;
            for (String test : row.split("&")) {
                all &= test.startsWith("-") ? !single(test.substring(1), facts) : single(test, facts);
            }
            if (all) {
                return true;
            }
        }
        return false;
    }

    private static boolean single(String test, int[] facts) {
        if (test.charAt(0) == 'h') {
            return (facts[4] & 1 << test.charAt(1) - '0') != 0;
        }
        int order = Integer.compare(facts["wnlz".indexOf(test.charAt(0))], Integer.parseInt(test.substring(2)));
        return order == "<=>".indexOf(test.charAt(1)) - 1;
    }

    private Result kept(Result result, boolean isKept) {
        if (result.reason != 0 && isKept) {
            kept = new int[] {result.reason, result.detail};
        }
        state(result.reason == 0);
        return result;
    }

    int rate(int group) {
        exists(group);
        return kept(result(group), true).total;
    }

    int rating(int group, int what) {
        exists(group);
        argument(in(what, 0, 9));
        return kept(result(group), false).parts[what];
    }

    int refuses(int group) {
        exists(group);
        return result(group).reason;
    }

    int refusal(boolean isDetail) {
        element(kept != null);
        return kept[isDetail ? 1 : 0];
    }

    double meanPrice(int group) {
        exists(group);
        Result result = kept(result(group), false);
        return (double) result.total / result.parts[4];
    }

    private final Map<Integer, Result> rated = new HashMap<>();

    private Result rated(int group) {
        return rated.computeIfAbsent(group, this::result);
    }

    private void eachAlone(int set, boolean isKept) {
        rated.clear();
        members(set).forEach(s -> kept(rated(1 << s), isKept));
    }

    /** All partitions of the members from this one on into the groups so far and new ones. */
    private void partitions(List<Integer> members, int next, List<Integer> groups, List<List<Integer>> found) {
        if (next == members.size()) {
            found.add(new ArrayList<>(groups));
            return;
        }
        for (int i = 0; i < groups.size(); i++) {
            int before = groups.get(i);
            groups.set(i, before | 1 << members.get(next));
            partitions(members, next + 1, groups, found);
            groups.set(i, before);
        }
        groups.add(1 << members.get(next));
        partitions(members, next + 1, groups, found);
        groups.remove(groups.size() - 1);
    }

    private int sum(List<Integer> groups) {
        return groups.stream().mapToInt(group -> rated(group).total).sum();
    }

    private int compare(List<Integer> one, List<Integer> two) {
        int order = Integer.compare(sum(one), sum(two));
        order = order != 0 ? order : Integer.compare(one.size(), two.size());
        for (int i = 0; order == 0 && i < one.size(); i++) {
            order = Integer.compare(one.get(i), two.get(i));
        }
        return order;
    }

    private List<Integer> best(int set) {
        List<List<Integer>> found = new ArrayList<>();
        partitions(members(set), 0, new ArrayList<>(), found);
        return found.stream().filter(groups -> groups.stream().allMatch(group -> rated(group).reason == 0))
                .min(this::compare).orElseThrow(AssertionError::new);
    }

    int consolidate(int set) {
        exists(set);
        argument(members(set).size() <= 8);
        eachAlone(set, true);
        return sum(best(set));
    }

    int group(int set, int i) {
        exists(set);
        argument(members(set).size() <= 8);
        eachAlone(set, false);
        List<Integer> best = best(set);
        element(in(i, -1, best.size() - 1));
        return i < 0 ? best.size() : best.get(i);
    }

    int searched(int set) {
        exists(set);
        argument(members(set).size() <= 6);
        eachAlone(set, false);
        return sum(best(set));
    }

    int merged(int set, int what) {
        exists(set);
        argument(members(set).size() <= 8 && in(what, 0, 2));
        eachAlone(set, false);
        TreeSet<Integer> groups = new TreeSet<>();
        members(set).forEach(s -> groups.add(1 << s));
        while (true) {
            int most = 0;
            int[] pair = null;
            for (int lower : groups) {
                for (int greater : groups.tailSet(lower, false)) {
                    Result together = rated(lower | greater);
                    int saved = rated(lower).total + rated(greater).total - together.total;
                    if (together.reason == 0 && saved > most) {
                        most = saved;
                        pair = new int[] {lower, greater};
                    }
                }
            }
            if (pair == null) {
                break;
            }
            groups.remove(pair[0]);
            groups.remove(pair[1]);
            groups.add(pair[0] | pair[1]);
        }
        int lowest = Integer.lowestOneBit(set);
        int first = groups.stream().filter(group -> (group & lowest) != 0).findFirst().orElseThrow();
        return new int[] {sum(new ArrayList<>(groups)), groups.size(), first}[what];
    }

    int post(int set) {
        exists(set);
        argument(members(set).size() <= 8);
        if (members(set).stream().anyMatch(s -> all.loads.get(s).share >= 0)) {
            throw new UnsupportedOperationException();
        }
        eachAlone(set, true);
        List<Integer> best = best(set);
        change();
        for (int group : best) {
            long total = rated(group).total;
            long whole = members(group).stream().mapToInt(s -> rated(1 << s).parts[4]).sum();
            long left = total;
            for (int s : members(group)) {
                all.loads.get(s).share = (int) (total * rated(1 << s).parts[4] / whole);
                left -= all.loads.get(s).share;
            }
            for (int s : members(group)) {
                if (left > 0) {
                    all.loads.get(s).share++;
                    left--;
                }
            }
        }
        all.booked += best.size();
        return sum(best);
    }

    int account(int customer) {
        argument(in(customer, 0, 6));
        int sum = 0;
        int set = 0;
        for (int s = 0; s < all.loads.size(); s++) {
            Load load = all.loads.get(s);
            if (load.share >= 0) {
                set |= 1 << s;
                sum += customer == 4 || load.customer == customer ? load.share : 0;
            }
        }
        return customer == 5 ? all.booked : customer == 6 ? set : sum;
    }

    int setRebate(int threshold, int percentage) {
        argument(threshold >= 0 && in(percentage, 0, 50));
        boolean exists = all.steps.containsKey(threshold);
        element(percentage > 0 || exists);
        state(exists || all.steps.size() < 5);
        change();
        if (percentage == 0) {
            all.steps.remove(threshold);
        } else {
            all.steps.put(threshold, percentage);
        }
        return all.steps.size();
    }

    int rebate(int customer) {
        argument(in(customer, 0, 3));
        int amount = account(customer);
        Map.Entry<Integer, Integer> step = all.steps.floorEntry(amount);
        return step == null ? 0 : percent(amount, step.getValue());
    }

    int undo() {
        state(!past.isEmpty());
        all = past.removeLast();
        return past.size();
    }

    int saveSnapshot() {
        snapshot = all.copy();
        return all.loads.size();
    }

    int restoreSnapshot() {
        state(snapshot != null);
        all = snapshot.copy();
        past.clear();
        return all.loads.size();
    }

    int write(int version, int accessorial) {
        Extra extra = extra(version, accessorial);
        String text = "a" + accessorial + ":" + extra.number + extra.kind
                + (extra.condition == null ? "" : "?" + extra.condition) + (extra.excluded < 0 ? "" : "!" + extra.excluded);
        paper = text.replaceAll("(?<![0-9])0+(?=[0-9])", "");
        return paper.length();
    }

    int written() {
        return paper.length();
    }

    char paper(int i) {
        index(in(i, 0, paper.length() - 1));
        return paper.charAt(i);
    }
}
