import java.math.BigInteger;
import java.util.ArrayDeque;
import java.util.ArrayList;
import java.util.Arrays;
import java.util.HashMap;
import java.util.HashSet;
import java.util.List;
import java.util.Map;
import java.util.Set;
import java.util.TreeMap;
import java.util.TreeSet;

/**
 * The document once more, as plainly and as slowly as can be, with no code of the class: texts by templates,
 * companies as sets of numbers, orders and rows by trying all. Random runs are held against it.
 */
final class Naive {
    record Token(String text, int place) {
    }

    record Felt(int warmth, Set<Integer> who) {
    }

    record Unsure(int one, int other, int by) {
    }

    /** All that acts change. */
    record State(Set<Integer> in, Map<String, Integer> ties, int introductions, int minutes) {
    }

    static final List<String> RESERVED = List.of("plunge", "bather", "knows", "foes", "unsure", "felt");

    byte[] tape = new byte[0];
    boolean there = false;
    int trouble = 0;
    int fault = 0;
    int place = -1;

    int warm;
    int chill;
    int ice;
    int visits;
    List<String> names = new ArrayList<>();
    List<String> kinds = new ArrayList<>();
    List<Integer> bears = new ArrayList<>();
    Map<String, Integer> first = new TreeMap<>();
    List<Unsure> unsure = new ArrayList<>();
    List<Felt> felt = new ArrayList<>();
    State now = new State(new TreeSet<>(), new TreeMap<>(), 0, 0);
    ArrayDeque<State> past = new ArrayDeque<>();
    List<State> images = new ArrayList<>();

    // ---- the text

    int feed(int... numbers) {
        if (tape.length + 20 > 900) {
            return -1;
        }
        int at = tape.length;
        tape = Arrays.copyOf(tape, at + 20);
        for (int i = 0; i < 20; i++) {
            tape[at + i] = BigInteger.valueOf(numbers[i / 4]).shiftRight(24 - 8 * (i % 4)).byteValue();
        }
        return tape.length;
    }

    int plunge(int n) {
        if (n < 0 || n > tape.length) {
            trouble = 2;
            return -1;
        }
        byte[] text = Arrays.copyOf(tape, n);
        tape = new byte[0];
        Naive read = new Naive();
        read.parse(text);
        fault = read.fault;
        if (fault != 0) {
            place = read.place;
            trouble = 4;
            return -1;
        }
        warm = read.warm;
        chill = read.chill;
        ice = read.ice;
        visits = read.visits;
        names = read.names;
        kinds = read.kinds;
        bears = read.bears;
        first = read.first;
        unsure = read.unsure;
        felt = read.felt;
        now = new State(new TreeSet<>(), new TreeMap<>(first), 0, 0);
        past.clear();
        images.clear();
        there = true;
        trouble = 0;
        return names.size();
    }

    static List<Token> tokens(byte[] text) {
        List<Token> list = new ArrayList<>();
        String whole = new String(text, java.nio.charset.StandardCharsets.ISO_8859_1);
        java.util.regex.Matcher m = java.util.regex.Pattern.compile("[a-z]+|[0-9]+|[^ ]", java.util.regex.Pattern.DOTALL).matcher(whole);
        while (m.find()) {
            String t = m.group();
            boolean good = t.matches("[a-z]{1,8}|[0-9]{1,3}|[;,]");
            list.add(new Token(good ? t : "?", m.start()));
        }
        list.add(new Token("", text.length));
        return list;
    }

    private boolean fail(int number, Token at) {
        fault = number;
        place = at.place;
        return false;
    }

    private void parse(byte[] text) {
        List<Token> rest = new ArrayList<>(tokens(text));
        boolean head = false;
        while (true) {
            Token word = rest.remove(0);
            String template = switch (word.text) {
                case "plunge" -> "warm 0-60 chill 0-9 ice 0-30 visits 0-100";
                case "bather" -> "NEW KIND bears 0-99";
                case "knows", "foes", "unsure" -> "ONE OTHER by 1-9";
                case "felt" -> "0-200 WHO";
                default -> null;
            };
            if (template == null) {
                fail(1, word);
                return;
            }
            boolean opens = word.text.equals("plunge");
            int number = opens && head ? 3 : !opens && !head ? 6 : isFull(word.text) ? 5 : 0;
            if (number != 0) {
                fail(number, word);
                return;
            }
            head = true;
            List<String> got = new ArrayList<>();
            for (String want : template.split(" ")) {
                if (!takes(want, rest, got)) {
                    return;
                }
            }
            note(word.text, got);
            Token next = rest.remove(0);
            if (next.text.equals("")) {
                if (names.isEmpty()) {
                    fail(6, next);
                }
                return;
            }
            if (!next.text.equals(";")) {
                fail(1, next);
                return;
            }
        }
    }

    private boolean isFull(String line) {
        return line.equals("bather") && names.size() == 6 || line.equals("unsure") && unsure.size() == 4
            || line.equals("felt") && felt.size() == 4;
    }

    private boolean takes(String want, List<Token> rest, List<String> got) {
        if (want.equals("WHO")) {
            while (rest.get(0).text.equals(",")) {
                rest.remove(0);
                Token who = rest.remove(0);
                if (!isName(who)) {
                    return fail(1, who);
                }
                if (!names.contains(who.text)) {
                    return fail(2, who);
                }
                if (got.contains(who.text)) {
                    return fail(3, who);
                }
                got.add(who.text);
            }
            return true;
        }
        Token token = rest.remove(0);
        got.add(token.text);
        if (want.matches("[0-9]+-[0-9]+")) {
            if (!token.text.matches("[0-9]+")) {
                return fail(1, token);
            }
            int value = Integer.parseInt(token.text);
            String[] ends = want.split("-");
            return value >= Integer.parseInt(ends[0]) && value <= Integer.parseInt(ends[1]) || fail(4, token);
        }
        if (want.equals("KIND")) {
            return List.of("plain", "tender", "hardy").contains(token.text) || fail(1, token);
        }
        if (want.equals(want.toLowerCase())) {
            return token.text.equals(want) || fail(1, token);
        }
        if (!isName(token)) {
            return fail(1, token);
        }
        if (want.equals("NEW")) {
            return !names.contains(token.text) || fail(3, token);
        }
        if (!names.contains(token.text)) {
            return fail(2, token);
        }
        if (want.equals("OTHER")) {
            String one = got.get(got.size() - 2);
            if (one.equals(token.text)) {
                return fail(3, token);
            }
            int b = names.indexOf(one);
            int other = names.indexOf(token.text);
            boolean told = first.containsKey(key(b, other));
            for (Unsure u : unsure) {
                told |= key(u.one, u.other).equals(key(b, other));
            }
            return !told || fail(3, token);
        }
        return true;
    }

    private static boolean isName(Token token) {
        return token.text.matches("[a-z]+") && !RESERVED.contains(token.text);
    }

    private void note(String line, List<String> got) {
        switch (line) {
            case "plunge" -> {
                warm = Integer.parseInt(got.get(1));
                chill = Integer.parseInt(got.get(3));
                ice = Integer.parseInt(got.get(5));
                visits = Integer.parseInt(got.get(7));
            }
            case "bather" -> {
                names.add(got.get(0));
                kinds.add(got.get(1));
                bears.add(Integer.parseInt(got.get(3)));
            }
            case "felt" -> {
                Set<Integer> who = new TreeSet<>();
                for (String name : got.subList(1, got.size())) {
                    who.add(names.indexOf(name));
                }
                felt.add(new Felt(Integer.parseInt(got.get(0)), who));
            }
            default -> {
                int b = names.indexOf(got.get(0));
                int other = names.indexOf(got.get(1));
                int by = Integer.parseInt(got.get(3));
                if (line.equals("unsure")) {
                    unsure.add(new Unsure(b, other, by));
                } else {
                    first.put(key(b, other), line.equals("knows") ? by : -by);
                }
            }
        }
    }

    int where() {
        return trouble == 4 ? place : -1;
    }

    // ---- basics

    static String key(int b, int other) {
        return Math.min(b, other) + "-" + Math.max(b, other);
    }

    int count() {
        return names.size();
    }

    static Set<Integer> set(int bits) {
        Set<Integer> set = new TreeSet<>();
        for (int b = 0; b < 6; b++) {
            if ((bits & (1 << b)) != 0) {
                set.add(b);
            }
        }
        return set;
    }

    static int bits(Set<Integer> set) {
        int bits = 0;
        for (int b : set) {
            bits += 1 << b;
        }
        return bits;
    }

    static Set<Integer> with(Set<Integer> set, int b) {
        Set<Integer> more = new TreeSet<>(set);
        more.add(b);
        return more;
    }

    static Set<Integer> without(Set<Integer> set, int b) {
        Set<Integer> less = new TreeSet<>(set);
        less.remove(b);
        return less;
    }

    static int warmth(Set<Integer> who, Map<String, Integer> ties, int warm, int chill) {
        int sum = warm;
        for (int b : who) {
            for (int other : who) {
                if (b < other) {
                    sum += ties.getOrDefault(key(b, other), -chill);
                }
            }
        }
        return sum < 0 ? 0 : sum > 200 ? 200 : sum;
    }

    int warm(Set<Integer> who) {
        return warmth(who, now.ties, warm, chill);
    }

    int need(int b) {
        return switch (kinds.get(b)) {
            case "tender" -> bears.get(b) + 5;
            case "hardy" -> bears.get(b) < 5 ? 0 : bears.get(b) - 5;
            default -> bears.get(b);
        };
    }

    Set<Integer> bearers(Set<Integer> who) {
        Set<Integer> some = new TreeSet<>();
        for (int b : who) {
            if (warm(who) >= need(b)) {
                some.add(b);
            }
        }
        return some;
    }

    boolean snug(Set<Integer> who) {
        return bearers(who).equals(who);
    }

    private int refuse(int number) {
        trouble = number;
        return -1;
    }

    boolean noPlunge() {
        trouble = there ? 0 : 1;
        return !there;
    }

    boolean noBather(int b) {
        trouble = there && b >= 0 && b < count() ? 0 : 1;
        return trouble != 0;
    }

    boolean noTwo(int b, int other) {
        boolean bad = noBather(b) || noBather(other) || b == other;
        trouble = bad ? 1 : 0;
        return bad;
    }

    boolean noSet(int set) {
        if (!noPlunge() && (set < 0 || set >= 1 << count())) {
            trouble = 2;
        }
        return trouble != 0;
    }

    boolean noNumber(int n, int greatest) {
        if (!noPlunge() && (n < 0 || n > greatest)) {
            trouble = 2;
        }
        return trouble != 0;
    }

    int knownTo(int b) {
        int bits = 0;
        for (int other = 0; other < count(); other++) {
            if (now.ties.getOrDefault(key(b, other), 0) > 0) {
                bits |= 1 << other;
            }
        }
        return bits;
    }

    // ---- now

    int bather(int b, int what) {
        if (noBather(b)) {
            return -1;
        }
        return switch (what) {
            case 0 -> List.of("plain", "tender", "hardy").indexOf(kinds.get(b));
            case 1 -> bears.get(b);
            case 2 -> need(b);
            case 3 -> now.in.contains(b) ? 1 : 0;
            case 4 -> knownTo(b);
            case 5 -> {
                int bits = 0;
                for (int other = 0; other < count(); other++) {
                    bits |= now.ties.getOrDefault(key(b, other), 0) < 0 ? 1 << other : 0;
                }
                yield bits;
            }
            case 6 -> bearers(now.in).contains(b) ? 1 : 0;
            default -> refuse(1);
        };
    }

    int ties(int b, int other) {
        return noTwo(b, other) ? -100 : now.ties.getOrDefault(key(b, other), 0);
    }

    int company() {
        return noPlunge() ? -1 : bits(now.in);
    }

    int warmth(int set) {
        return noSet(set) ? -1 : warm(set(set));
    }

    int bear(int set) {
        return noSet(set) ? -1 : bits(bearers(set(set)));
    }

    int iced() {
        return noPlunge() ? -1 : warm(now.in) < ice ? 1 : 0;
    }

    List<Set<Integer>> leaving(Set<Integer> who) {
        List<Set<Integer>> row = new ArrayList<>(List.of(who));
        while (!snug(row.get(row.size() - 1))) {
            row.add(bearers(row.get(row.size() - 1)));
        }
        return row;
    }

    int stays(int set) {
        if (noSet(set)) {
            return -1;
        }
        List<Set<Integer>> row = leaving(set(set));
        return bits(row.get(row.size() - 1));
    }

    int minutes(int set) {
        return noSet(set) ? -1 : leaving(set(set)).size() - 1;
    }

    int spare(int set) {
        if (noSet(set)) {
            return -1;
        }
        int greatest = 0;
        for (int b : set(set)) {
            greatest = Math.max(greatest, need(b));
        }
        return 200 + warm(set(set)) - greatest;
    }

    int closest() {
        if (noPlunge()) {
            return -1;
        }
        for (int by = 9; by > 0; by--) {
            for (int b = 0; b < count(); b++) {
                for (int other = b + 1; other < count(); other++) {
                    if (now.ties.getOrDefault(key(b, other), 0) == by) {
                        return 10 * b + other;
                    }
                }
            }
        }
        return -2;
    }

    int loneliest() {
        if (noPlunge()) {
            return -1;
        }
        for (int many = 0; ; many++) {
            for (int b = 0; b < count(); b++) {
                if (set(knownTo(b)).size() == many) {
                    return b;
                }
            }
        }
    }

    int mates(int b) {
        if (noBather(b)) {
            return -1;
        }
        Set<Integer> some = new TreeSet<>();
        for (int other = 0; other < count(); other++) {
            if (other != b && bearers(Set.of(b, other)).contains(b)) {
                some.add(other);
            }
        }
        return bits(some);
    }

    // ---- companies

    int mostOf(Set<Integer> needed) {
        for (int many = count(); many >= 0; many--) {
            for (int s = 0; s < 1 << count(); s++) {
                if (set(s).size() == many && set(s).containsAll(needed) && snug(set(s))) {
                    return s;
                }
            }
        }
        return -2;
    }

    int most() {
        return noPlunge() ? -1 : mostOf(Set.of());
    }

    int mostWith(int b) {
        return noBather(b) ? -1 : mostOf(Set.of(b));
    }

    int byWarmth(int many, boolean greatest) {
        TreeMap<Integer, Integer> least = new TreeMap<>();
        for (int s = (1 << count()) - 1; s >= 0; s--) {
            if (set(s).size() == many) {
                least.put(warm(set(s)), s);
            }
        }
        return greatest ? least.lastEntry().getValue() : least.firstEntry().getValue();
    }

    int warmest(int many) {
        return noNumber(many, count()) ? -1 : byWarmth(many, true);
    }

    int coldest(int many) {
        return noNumber(many, count()) ? -1 : byWarmth(many, false);
    }

    int bearsWith(int b) {
        if (noBather(b)) {
            return -1;
        }
        for (int many = 0; many < count(); many++) {
            for (int s = 0; s < 1 << count(); s++) {
                if (set(s).size() == many && !set(s).contains(b) && bearers(with(set(s), b)).contains(b)) {
                    return s;
                }
            }
        }
        return -2;
    }

    int turned(int b, boolean before) {
        int many = 0;
        for (int s = 0; s < 1 << count(); s++) {
            Set<Integer> who = set(s);
            if (!who.contains(b) && snug(who) == before && snug(with(who, b)) == !before) {
                many++;
            }
        }
        return many;
    }

    int spoils(int b) {
        return noBather(b) ? -1 : turned(b, true);
    }

    int mends(int b) {
        return noBather(b) ? -1 : turned(b, false);
    }

    private List<Integer> order(Set<Integer> target, List<Integer> sofar) {
        if (sofar.size() == target.size()) {
            return sofar;
        }
        for (int b : target) {
            if (!sofar.contains(b)) {
                List<Integer> more = new ArrayList<>(sofar);
                more.add(b);
                if (snug(new TreeSet<>(more))) {
                    List<Integer> found = order(target, more);
                    if (found != null) {
                        return found;
                    }
                }
            }
        }
        return null;
    }

    int comes(int set) {
        return noSet(set) ? -1 : order(set(set), List.of()) != null ? 1 : 0;
    }

    int comesAt(int set, int i) {
        if (noSet(set)) {
            return -1;
        }
        List<Integer> order = order(set(set), List.of());
        return order == null || i < 0 || i >= order.size() ? refuse(1) : order.get(i);
    }

    int snugs() {
        if (noPlunge()) {
            return -1;
        }
        int many = 0;
        for (int s = 0; s < 1 << count(); s++) {
            many += snug(set(s)) ? 1 : 0;
        }
        return many;
    }

    int toCall() {
        if (noPlunge()) {
            return -1;
        }
        int best = -2;
        for (int b = count() - 1; b >= 0; b--) {
            if (!now.in.contains(b) && (best < 0 || warm(with(now.in, b)) >= warm(with(now.in, best)))) {
                best = b;
            }
        }
        return best;
    }

    int toSend() {
        if (noPlunge()) {
            return -1;
        }
        int best = -2;
        for (int b = count() - 1; b >= 0; b--) {
            if (now.in.contains(b) && (best < 0 || warm(without(now.in, b)) >= warm(without(now.in, best)))) {
                best = b;
            }
        }
        return best;
    }

    /** All rows of numbers, the first first; of them those whose numbers come up in order. */
    private int[] bestRow() {
        int n = count();
        int[] best = null;
        int fewest = 7;
        int rows = (int) Math.pow(n, n);
        for (int code = 0; code < rows; code++) {
            int[] row = new int[n];
            int rest = code;
            for (int b = n - 1; b >= 0; b--) {
                row[b] = rest % n;
                rest /= n;
            }
            int used = 0;
            boolean good = true;
            for (int b = 0; b < n; b++) {
                good &= row[b] <= used;
                used = Math.max(used, row[b] + 1);
            }
            if (!good || used >= fewest) {
                continue;
            }
            for (int k = 0; k < used; k++) {
                Set<Integer> who = new TreeSet<>();
                for (int b = 0; b < n; b++) {
                    if (row[b] == k) {
                        who.add(b);
                    }
                }
                good &= snug(who);
            }
            if (good) {
                best = row;
                fewest = used;
            }
        }
        return best;
    }

    int baths() {
        if (noPlunge()) {
            return -1;
        }
        int[] row = bestRow();
        return row == null ? -2 : Arrays.stream(row).max().getAsInt() + 1;
    }

    int bathOf(int b) {
        if (noBather(b)) {
            return -1;
        }
        int[] row = bestRow();
        return row == null ? -2 : row[b];
    }

    // ---- introductions

    static boolean stranger(Map<String, Integer> ties, int b, int other) {
        return !ties.containsKey(key(b, other));
    }

    boolean third(Map<String, Integer> ties, int b, int other) {
        for (int c = 0; c < count(); c++) {
            if (c != b && c != other && ties.getOrDefault(key(b, c), 0) > 0 && ties.getOrDefault(key(c, other), 0) > 0) {
                return true;
            }
        }
        return false;
    }

    int canMeet(int b, int other) {
        return noTwo(b, other) ? -1 : stranger(now.ties, b, other) && third(now.ties, b, other) ? 1 : 0;
    }

    int meetings() {
        if (noPlunge()) {
            return -1;
        }
        int many = 0;
        for (int b = 0; b < count(); b++) {
            for (int other = 0; other < b; other++) {
                many += stranger(now.ties, b, other) && third(now.ties, b, other) ? 1 : 0;
            }
        }
        return many;
    }

    /** All rows of just so many introductions, in their order; the first that makes it snug. */
    private List<Integer> row(Set<Integer> who, Map<String, Integer> ties, int many) {
        if (many == 0) {
            for (int b : who) {
                if (warmth(who, ties, warm, chill) < need(b)) {
                    return null;
                }
            }
            return new ArrayList<>();
        }
        for (int b = 0; b < count(); b++) {
            for (int other = b + 1; other < count(); other++) {
                if (stranger(ties, b, other) && third(ties, b, other)) {
                    Map<String, Integer> more = new HashMap<>(ties);
                    more.put(key(b, other), 1);
                    List<Integer> rest = row(who, more, many - 1);
                    if (rest != null) {
                        rest.add(0, 10 * b + other);
                        return rest;
                    }
                }
            }
        }
        return null;
    }

    private List<Integer> fewestRow(int set) {
        for (int many = 0; many <= 3; many++) {
            List<Integer> row = row(set(set), now.ties, many);
            if (row != null) {
                return row;
            }
        }
        return null;
    }

    int fewest(int set) {
        if (noSet(set)) {
            return -1;
        }
        List<Integer> row = fewestRow(set);
        return row == null ? -2 : row.size();
    }

    int firstMeeting(int set) {
        if (noSet(set)) {
            return -1;
        }
        List<Integer> row = fewestRow(set);
        return row == null || row.isEmpty() ? -2 : row.get(0);
    }

    /** Steps from each to each, by letting a shorter way over a third one count (Floyd). */
    private int[][] steps() {
        int n = count();
        int[][] steps = new int[n][n];
        for (int b = 0; b < n; b++) {
            for (int other = 0; other < n; other++) {
                steps[b][other] = b == other ? 0 : (knownTo(b) & 1 << other) != 0 ? 1 : 99;
            }
        }
        for (int over = 0; over < n; over++) {
            for (int b = 0; b < n; b++) {
                for (int other = 0; other < n; other++) {
                    steps[b][other] = Math.min(steps[b][other], steps[b][over] + steps[over][other]);
                }
            }
        }
        return steps;
    }

    int between(int b, int other) {
        if (noTwo(b, other)) {
            return -1;
        }
        int steps = steps()[b][other];
        return steps >= 99 ? -2 : steps - 1;
    }

    int circles() {
        if (noPlunge()) {
            return -1;
        }
        Set<String> rows = new HashSet<>();
        for (int[] row : steps()) {
            StringBuilder near = new StringBuilder();
            for (int step : row) {
                near.append(step < 99 ? '1' : '0');
            }
            rows.add(near.toString());
        }
        return rows.size();
    }

    // ---- what was felt

    boolean allFelt(Map<String, Integer> ties, int byChill) {
        for (Felt f : felt) {
            if (warmth(f.who, ties, warm, byChill) != f.warmth) {
                return false;
            }
        }
        return true;
    }

    List<Integer> fitList() {
        List<Integer> list = new ArrayList<>();
        for (int s = 0; s < 1 << unsure.size(); s++) {
            Map<String, Integer> ties = new HashMap<>(first);
            for (int i : set(s)) {
                ties.put(key(unsure.get(i).one, unsure.get(i).other), unsure.get(i).by);
            }
            if (allFelt(ties, chill)) {
                list.add(s);
            }
        }
        return list;
    }

    int fits() {
        return noPlunge() ? -1 : fitList().size();
    }

    int fitAt(int i) {
        if (noPlunge()) {
            return -1;
        }
        List<Integer> list = fitList();
        return i < 0 || i >= list.size() ? refuse(1) : list.get(i);
    }

    int could() {
        return noPlunge() ? -1 : fitList().stream().reduce(0, (a, b) -> a | b);
    }

    int surely() {
        return noPlunge() ? -1 : fitList().stream().reduce((a, b) -> a & b).orElse(0);
    }

    private int[] askRow() {
        List<Integer> list = fitList();
        int[] best = {-2, -2};
        if (list.isEmpty()) {
            return best;
        }
        for (int i = 0; i < unsure.size(); i++) {
            int bit = 1 << i;
            int yes = (int) list.stream().filter(s -> (s & bit) != 0).count();
            int no = (int) list.stream().filter(s -> (s & bit) == 0).count();
            if (best[0] == -2 || Math.max(yes, no) < best[1]) {
                best = new int[] {i, Math.max(yes, no)};
            }
        }
        return best;
    }

    int ask() {
        return noPlunge() ? -1 : askRow()[0];
    }

    int askLeaves() {
        return noPlunge() ? -1 : askRow()[1];
    }

    int chills() {
        if (noPlunge()) {
            return -1;
        }
        int bits = 0;
        for (int c = 0; c <= 9; c++) {
            bits += allFelt(first, c) ? 1 << c : 0;
        }
        return bits;
    }

    int judge() {
        if (noPlunge()) {
            return -1;
        }
        for (int i = 0; i < felt.size(); i++) {
            if (warmth(felt.get(i).who, first, warm, chill) != felt.get(i).warmth) {
                return i;
            }
        }
        return -2;
    }

    // ---- each for himself

    List<Integer> restList() {
        List<Integer> list = new ArrayList<>();
        for (int s = 0; s < 1 << count(); s++) {
            Set<Integer> who = set(s);
            boolean rest = snug(who);
            for (int b = 0; b < count(); b++) {
                rest &= who.contains(b) || !bearers(with(who, b)).contains(b);
            }
            if (rest) {
                list.add(s);
            }
        }
        return list;
    }

    int rests() {
        return noPlunge() ? -1 : restList().size();
    }

    int restAt(int i) {
        if (noPlunge()) {
            return -1;
        }
        List<Integer> list = restList();
        return i < 0 || i >= list.size() ? refuse(1) : list.get(i);
    }

    static int has(int longing, boolean me, boolean him) {
        return me && him ? longing : me ? -2 : him ? 1 : 2;
    }

    int swim(int longing, boolean one, boolean other, boolean ofOther) {
        return noNumber(longing, 9) ? -100 : ofOther ? has(longing, other, one) : has(longing, one, other);
    }

    List<Integer> evenList(int longing) {
        List<Integer> list = new ArrayList<>();
        for (boolean one : new boolean[] {false, true}) {
            for (boolean other : new boolean[] {false, true}) {
                if (has(longing, one, other) >= has(longing, !one, other) && has(longing, other, one) >= has(longing, !other, one)) {
                    list.add((one ? 10 : 0) + (other ? 1 : 0));
                }
            }
        }
        return list;
    }

    int evens(int longing) {
        return noNumber(longing, 9) ? -1 : evenList(longing).size();
    }

    int even(int longing) {
        return noNumber(longing, 9) ? -1 : evenList(longing).isEmpty() ? -2 : evenList(longing).get(0);
    }

    // ---- visitors, mornings

    /** The sum, over who may be in beside those who are for sure, of how likely that is times what it is worth. */
    private long expect(Set<Integer> sure, java.util.function.ToIntFunction<Set<Integer>> worth, boolean lower) {
        BigInteger upper = BigInteger.ZERO;
        BigInteger below = BigInteger.valueOf(100).pow(count() - sure.size());
        for (int s = 0; s < 1 << count(); s++) {
            Set<Integer> who = set(s);
            if (who.containsAll(sure)) {
                int come = who.size() - sure.size();
                upper = upper.add(BigInteger.valueOf(visits).pow(come)
                    .multiply(BigInteger.valueOf(100 - visits).pow(count() - who.size()))
                    .multiply(BigInteger.valueOf(worth.applyAsInt(who))));
            }
        }
        BigInteger gcd = upper.gcd(below);
        return (lower ? below : upper).divide(gcd).longValueExact();
    }

    long odds(int b, boolean lower) {
        return noBather(b) ? -1 : expect(Set.of(b), who -> bearers(who).contains(b) ? 1 : 0, lower);
    }

    long mean(boolean lower) {
        return noPlunge() ? -1 : expect(Set.of(), this::warm, lower);
    }

    long icy(boolean lower) {
        return noPlunge() ? -1 : expect(Set.of(), who -> warm(who) < ice ? 1 : 0, lower);
    }

    private List<List<Set<Integer>>> mornings(int seed, int n) {
        List<List<Set<Integer>>> all = new ArrayList<>();
        long draw = seed;
        for (int i = 0; i < n; i++) {
            Set<Integer> who = new TreeSet<>();
            for (int b = 0; b < count(); b++) {
                draw = (75 * draw + 74) % 65537;
                if (draw % 100 < visits) {
                    who.add(b);
                }
            }
            all.add(leaving(who));
        }
        return all;
    }

    int mornings(int b, int seed, int n) {
        if (noBather(b) || noNumber(seed, 65536) || noNumber(n, 60)) {
            return -1;
        }
        int many = 0;
        for (List<Set<Integer>> row : mornings(seed, n)) {
            many += row.get(row.size() - 1).contains(b) ? 1 : 0;
        }
        return many;
    }

    int waits(int seed, int n) {
        if (noNumber(seed, 65536) || noNumber(n, 60)) {
            return -1;
        }
        return mornings(seed, n).stream().mapToInt(row -> row.size() - 1).sum();
    }

    // ---- acts

    private void act(State next) {
        past.addLast(now);
        if (past.size() > 16) {
            past.removeFirst();
        }
        now = next;
    }

    int come(int b) {
        if (noBather(b)) {
            return -1;
        }
        if (now.in.contains(b)) {
            return refuse(5);
        }
        act(new State(with(now.in, b), now.ties, now.introductions, now.minutes));
        return warm(now.in);
    }

    int get(int b) {
        if (noBather(b)) {
            return -1;
        }
        if (!now.in.contains(b)) {
            return refuse(5);
        }
        act(new State(without(now.in, b), now.ties, now.introductions, now.minutes));
        return warm(now.in);
    }

    boolean introduce(int b, int other) {
        if (noTwo(b, other)) {
            return false;
        }
        trouble = !stranger(now.ties, b, other) ? 5 : !third(now.ties, b, other) ? 6 : 0;
        if (trouble != 0) {
            return false;
        }
        Map<String, Integer> more = new TreeMap<>(now.ties);
        more.put(key(b, other), 1);
        act(new State(now.in, more, now.introductions + 1, now.minutes));
        return true;
    }

    int minute() {
        if (noPlunge()) {
            return -1;
        }
        if (snug(now.in)) {
            return refuse(5);
        }
        int out = bits(now.in) - bits(bearers(now.in));
        act(new State(bearers(now.in), now.ties, now.introductions, now.minutes + 1));
        return out;
    }

    boolean undo() {
        trouble = past.isEmpty() ? 6 : 0;
        if (trouble == 0) {
            now = past.removeLast();
        }
        return trouble == 0;
    }

    int image() {
        if (noPlunge()) {
            return -1;
        }
        if (images.size() == 3) {
            return refuse(3);
        }
        images.add(now);
        return images.size() - 1;
    }

    boolean back(int image) {
        trouble = image < 0 || image >= images.size() ? 1 : 0;
        if (trouble == 0) {
            now = images.get(image);
            past.clear();
        }
        return trouble == 0;
    }

    // ---- what is told

    int led(int i) {
        List<Integer> cold = new ArrayList<>();
        for (int b : now.in) {
            if (!bearers(now.in).contains(b)) {
                cold.add(b);
            }
        }
        return i < 0 || i >= cold.size() ? -1000 : cold.get(i);
    }

    int size(int what) {
        int[] sizes = {warm, chill, ice, visits, count(),
            (int) now.ties.values().stream().filter(t -> t > 0).count(),
            (int) now.ties.values().stream().filter(t -> t < 0).count(),
            unsure.size(), felt.size(), now.introductions, now.minutes, past.size(), images.size(), tape.length};
        return what < 0 || what >= sizes.length ? -1 : sizes[what];
    }
}
