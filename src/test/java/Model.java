import java.math.BigInteger;
import java.util.ArrayList;
import java.util.Arrays;
import java.util.List;
import java.util.Map;

/**
 * The document told a second time, by lists, written-out orders and real arrays whose faults the machine finds,
 * so that a slip in the program's sums and bit sets shows as a difference.
 */
final class Model {

    private static final class TextFault extends Exception {
        private static final long serialVersionUID = 1L;
        final int number;
        final int place;

        TextFault(int number, int place) {
            this.number = number;
            this.place = place;
        }
    }

    private record Token(char sort, String sign, int place) {
    }

    private record Seen(int person, int cut, int found) {
    }

    private static final class State {
        List<Integer> cells = new ArrayList<>(List.of(1, 1));
        List<Integer> people = new ArrayList<>();
        List<int[]> pairs = new ArrayList<>();
        List<Seen> seen = new ArrayList<>();
        int slip = 0;
        int fine = 0;
        int appeals = 0;
        int halves = 2;

        State copy() {
            State s = new State();
            s.cells = new ArrayList<>(cells);
            s.people = new ArrayList<>(people);
            s.pairs = new ArrayList<>(pairs);
            s.seen = new ArrayList<>(seen);
            s.slip = slip;
            s.fine = fine;
            s.appeals = appeals;
            s.halves = halves;
            return s;
        }
    }

    private static final List<String> KINDS = List.of("plain", "child", "sweet", "dealer");
    private static final Map<String, int[]> BOUNDS =
            Map.of("slip", new int[] {0, 9}, "fine", new int[] {0, 99}, "case", new int[] {2, 5});

    private State s = new State();
    private final State[] images = new State[2];
    private final Object[] sheets = new Object[4];
    private StringBuilder tape = new StringBuilder();
    private int fault = 0;
    private int torn = 0;

    // ---- the text

    int feed(int c) {
        if (c < 0 || c > 127) return -1;
        if (tape.length() == 160) return -3;
        return tape.append((char) c).length();
    }

    int end(int n) {
        if (n < 0 || n > tape.length()) return -1;
        int had = tape.length();
        tape.setLength(n);
        return had;
    }

    int text() {
        String all = tape.toString();
        tape = new StringBuilder();
        fault = 0;
        try {
            State told = new State();
            int lines = parse(all, told);
            s = told;
            Arrays.fill(images, null);
            return lines;
        } catch (TextFault f) {
            fault = f.number;
            return -10 - f.place;
        }
    }

    /** The TOKENS; a wrong one is of sort '?', and the end of sort '$'. */
    private static List<Token> tokens(String all) {
        List<Token> list = new ArrayList<>();
        int i = 0;
        while (i < all.length()) {
            String rest = all.substring(i);
            String name = rest.replaceFirst("(?s)^([a-z]*).*$", "$1");
            String number = rest.replaceFirst("(?s)^([0-9]*).*$", "$1");
            if (!name.isEmpty()) {
                list.add(new Token('a', name, i));
                i += name.length();
            } else if (!number.isEmpty()) {
                list.add(new Token(number.length() > 2 ? '?' : '0', number, i));
                i += number.length();
            } else {
                if (rest.charAt(0) != ' ') list.add(new Token(rest.charAt(0) == ';' ? ';' : '?', ";", i));
                i++;
            }
        }
        list.add(new Token('$', "", all.length()));
        return list;
    }

    private static Token want(Token t, char sort) throws TextFault {
        if (t.sort == '?') throw new TextFault(1, t.place);
        if (t.sort != sort) throw new TextFault(2, t.place);
        return t;
    }

    private static int number(Token t, int low, int high) throws TextFault {
        int v = Integer.parseInt(want(t, '0').sign);
        if (v < low || v > high) throw new TextFault(3, t.place);
        return v;
    }

    private static int parse(String all, State told) throws TextFault {
        List<Token> list = tokens(all);
        List<String> names = new ArrayList<>();
        int lines = 0;
        int at = 0;
        while (list.get(at).sort != '$') {
            Token name = want(list.get(at++), 'a');
            String word = name.sign;
            if (KINDS.contains(word)) {
                if (told.people.size() == 4) throw new TextFault(5, name.place);
                told.people.add(KINDS.indexOf(word));
            } else if (word.equals("lighter")) {
                if (told.pairs.size() == 8) throw new TextFault(5, name.place);
                int a = number(list.get(at++), 0, 4);
                Token second = list.get(at++);
                int b = number(second, 0, 4);
                if (a == b) throw new TextFault(3, second.place);
                told.pairs.add(new int[] {a, b});
            } else if (word.equals("thing") || BOUNDS.containsKey(word)) {
                if (names.contains(word)) throw new TextFault(4, name.place);
                names.add(word);
                if (word.equals("thing")) {
                    told.cells = new ArrayList<>();
                    while (told.cells.size() < 2 || list.get(at).sort == '0') {
                        Token t = list.get(at++);
                        int v = number(t, 0, 9);
                        if (told.cells.size() == 8) throw new TextFault(5, t.place);
                        told.cells.add(v);
                    }
                } else {
                    int v = number(list.get(at++), BOUNDS.get(word)[0], BOUNDS.get(word)[1]);
                    if (word.equals("slip")) told.slip = v;
                    if (word.equals("fine")) told.fine = v;
                    if (word.equals("case")) told.halves = v;
                }
            } else {
                throw new TextFault(2, name.place);
            }
            want(list.get(at++), ';');
            lines++;
        }
        for (int[] pair : told.pairs) {
            if (Math.max(pair[0], pair[1]) >= told.halves) throw new TextFault(6, all.length());
        }
        if (allOrders(told.halves, told.pairs).isEmpty()) throw new TextFault(7, all.length());
        return lines;
    }

    int fault() {
        return fault;
    }

    int rule(int what) {
        int sum = s.cells.stream().mapToInt(Integer::intValue).sum();
        int[] all = {s.cells.size(), s.people.size(), s.slip, s.fine, s.appeals, s.halves, s.pairs.size(), sum};
        return what < 0 || what > 7 ? -1 : all[what];
    }

    int cell(int i) {
        return isIn(s.cells, i) ? s.cells.get(i) : -1;
    }

    int person(int p) {
        return isIn(s.people, p) ? s.people.get(p) : -1;
    }

    int pair(int i) {
        return isIn(s.pairs, i) ? 10 * s.pairs.get(i)[0] + s.pairs.get(i)[1] : -1;
    }

    private static boolean isIn(List<?> list, int i) {
        return i >= 0 && i < list.size();
    }

    // ---- what is changed

    int weigh(int i, int v) {
        return isIn(s.cells, i) && v >= 0 && v <= 9 ? s.cells.set(i, v) : -1;
    }

    int split(int i) {
        if (!isIn(s.cells, i)) return -1;
        if (s.cells.size() == 8) return -3;
        int w = s.cells.remove(i);
        s.cells.add(i, w / 2);
        s.cells.add(i, w - w / 2);
        return s.cells.size();
    }

    int join(int i) {
        if (!isIn(s.cells, i) || i == s.cells.size() - 1) return -1;
        if (s.cells.size() == 2) return -2;
        int w = s.cells.remove(i);
        s.cells.set(i, Math.min(9, w + s.cells.get(i)));
        return s.cells.size();
    }

    int teach(int p, int kind) {
        return isIn(s.people, p) && kind >= 0 && kind <= 3 ? s.people.set(p, kind) : -1;
    }

    int set(int what, int v) {
        int was = -1;
        if (what == 2 && v >= 0 && v <= 9) {
            was = s.slip;
            s.slip = v;
        }
        if (what == 3 && v >= 0 && v <= 99) {
            was = s.fine;
            s.fine = v;
        }
        return was;
    }

    int appeal() {
        if (s.fine < 2) return -2;
        s.appeals++;
        s.fine -= s.fine / 2;
        return s.fine;
    }

    int lighter(int a, int b) {
        if (a < 0 || b < 0 || a >= s.halves || b >= s.halves || a == b) return -1;
        if (s.pairs.size() == 8) return -3;
        if (ordersWith(a, b).isEmpty()) return -2;
        s.pairs.add(new int[] {a, b});
        return s.pairs.size();
    }

    // ---- what it is worth

    private static int value(int kind, int i, int weight) {
        int child = i == 0 ? 2 * weight : weight;
        return new int[] {weight, child, child + weight % 2, weight / 2}[kind];
    }

    private static int value(State s, int p, int from, int to) {
        int sum = 0;
        for (int i = from; i < to; i++) sum += value(s.people.get(p), i, s.cells.get(i));
        return sum;
    }

    private static int left(State s, int p, int k) {
        return value(s, p, 0, k);
    }

    private static int right(State s, int p, int k) {
        return value(s, p, k, s.cells.size());
    }

    private static int found(State s, int p, int k) {
        int l = left(s, p, k);
        int r = right(s, p, k);
        return l > r + s.slip ? 1 : r > l + s.slip ? 2 : 0;
    }

    private boolean isCut(int k) {
        return k >= 1 && k < s.cells.size();
    }

    int worth(int p, int some) {
        if (!isIn(s.people, p) || some < 0 || some >= Math.pow(2, s.cells.size())) return -1;
        int sum = 0;
        for (int i = 0; i < s.cells.size(); i++) {
            if ((some & 1 << i) != 0) sum += value(s, p, i, i + 1);
        }
        return sum;
    }

    int finds(int p, int k) {
        return isIn(s.people, p) && isCut(k) ? found(s, p, k) : -1;
    }

    int just(int k) {
        return isCut(k) ? justBits(s, k) : -1;
    }

    private static int justBits(State s, int k) {
        int bits = 0;
        for (int p = 0; p < s.people.size(); p++) {
            if (found(s, p, k) == 0) bits += 1 << p;
        }
        return bits;
    }

    int middle(int what) {
        if (what < 0 || what > 1) return -1;
        for (int many = s.people.size(); many >= 0; many--) {
            for (int k = 1; k < s.cells.size(); k++) {
                if (Integer.bitCount(justBits(s, k)) == many) return what == 0 ? k : many;
            }
        }
        throw new IllegalStateException();
    }

    int honest(int p) {
        if (!isIn(s.people, p)) return -1;
        for (int differ = 0; ; differ++) {
            for (int k = 1; k < s.cells.size(); k++) {
                if (Math.abs(left(s, p, k) - right(s, p, k)) == differ) return k;
            }
        }
    }

    private boolean areTwo(int p, int q) {
        return isIn(s.people, p) && isIn(s.people, q) && p != q;
    }

    private boolean takesLeft(int q, int k) {
        return !(right(s, q, k) > left(s, q, k));
    }

    int chosen(int p, int q, int what) {
        if (!areTwo(p, q) || what < 0 || what > 2) return -1;
        int k = honest(p);
        boolean takesLeft = takesLeft(q, k);
        int gets = takesLeft ? right(s, p, k) : left(s, p, k);
        int other = takesLeft ? left(s, p, k) : right(s, p, k);
        int second = takesLeft ? left(s, q, k) : right(s, q, k);
        return what == 0 ? gets : what == 1 ? second : other > gets ? 1 : 0;
    }

    int sly(int p, int q, int what) {
        if (!areTwo(p, q) || what < 0 || what > 1) return -1;
        int cut = 0;
        int most = -1;
        for (int k = s.cells.size() - 1; k >= 1; k--) {
            int gets = takesLeft(q, k) ? right(s, p, k) : left(s, p, k);
            if (gets >= most) {
                most = gets;
                cut = k;
            }
        }
        return what == 0 ? cut : most;
    }

    int halves(int some, int what) {
        if (some < 0 || some >= 1 << s.people.size() || what < 0 || what > 1) return -1;
        int all = (1 << s.cells.size()) - 1;
        int fewest = -4;
        int least = -4;
        for (int set = all; set >= 0; set--) {
            boolean fair = true;
            for (int p = 0; p < s.people.size(); p++) {
                if ((some >> p & 1) == 1 && Math.abs(worth(p, set) - worth(p, all - set)) > s.slip) fair = false;
            }
            int cuts = 0;
            for (int i = 1; i < s.cells.size(); i++) {
                if ((set >> i & 1) != (set >> i - 1 & 1)) cuts++;
            }
            if (fair && (fewest < 0 || cuts <= fewest)) {
                fewest = cuts;
                least = set;
            }
        }
        return what == 0 ? fewest : least;
    }

    // ---- fines

    int stop(int cost, int what) {
        if (cost < 0 || cost > 99 || what < 0 || what > 1) return -1;
        List<Integer> sums = new ArrayList<>();
        int fine = s.fine;
        sums.add(fine);
        while (fine > 1) {
            fine -= fine / 2;
            sums.add(fine + cost * sums.size());
        }
        int least = sums.stream().mapToInt(Integer::intValue).min().getAsInt();
        return what == 0 ? sums.indexOf(least) : least;
    }

    // ---- the case

    private static List<List<Integer>> allOrders(int halves, List<int[]> pairs) {
        List<List<Integer>> all = new ArrayList<>();
        extend(new ArrayList<>(), halves, all);
        all.removeIf(order -> {
            for (int[] pair : pairs) {
                if (order.indexOf(pair[0]) > order.indexOf(pair[1])) return true;
            }
            return false;
        });
        return all;
    }

    private static void extend(List<Integer> order, int halves, List<List<Integer>> all) {
        if (order.size() == halves) {
            all.add(new ArrayList<>(order));
            return;
        }
        for (int h = 0; h < halves; h++) {
            if (!order.contains(h)) {
                order.add(h);
                extend(order, halves, all);
                order.remove(order.size() - 1);
            }
        }
    }

    private List<List<Integer>> ordersWith(int a, int b) {
        List<int[]> pairs = new ArrayList<>(s.pairs);
        pairs.add(new int[] {a, b});
        return allOrders(s.halves, pairs);
    }

    int orders(int what) {
        List<List<Integer>> all = allOrders(s.halves, s.pairs);
        if (what == 0) return all.size();
        if (what == 1) return all.stream().mapToInt(o -> 1 << o.get(0)).reduce(0, (a, b) -> a | b);
        if (what == 2) return all.stream().mapToInt(o -> 1 << o.get(s.halves - 1)).reduce(0, (a, b) -> a | b);
        if (what < 10 || what >= 10 + s.halves) return -1;
        return all.get(0).get(what - 10);
    }

    int next(int what) {
        if (what < 0 || what > 1) return -1;
        int now = allOrders(s.halves, s.pairs).size();
        int best = -4;
        int least = -4;
        for (int a = s.halves - 1; a >= 0; a--) {
            for (int b = s.halves - 1; b > a; b--) {
                int worst = Math.max(ordersWith(a, b).size(), ordersWith(b, a).size());
                if (worst < now && (least < 0 || worst <= least)) {
                    least = worst;
                    best = 10 * a + b;
                }
            }
        }
        return what == 0 ? best : least;
    }

    // ---- a court

    private boolean isTrial(int v, int k, int what) {
        return v >= 0 && v <= 10 && isCut(k) && what >= 0 && what <= 1;
    }

    private static long part(BigInteger top, BigInteger bottom, int what) {
        BigInteger common = top.gcd(bottom);
        return (what == 0 ? top : bottom).divide(common).longValueExact();
    }

    long luck(int v, int k, int what) {
        if (!isTrial(v, k, what)) return -1;
        int n = s.people.size();
        int just = justBits(s, k);
        BigInteger top = BigInteger.ZERO;
        for (int lies = 0; lies < 1 << n; lies++) {
            BigInteger chance = BigInteger.ONE;
            for (int p = 0; p < n; p++) {
                chance = chance.multiply(BigInteger.valueOf((lies >> p & 1) == 1 ? v : 10 - v));
            }
            if (2 * Integer.bitCount(just ^ lies) > n) top = top.add(chance);
        }
        return part(top, BigInteger.TEN.pow(n), what);
    }

    long mean(int v, int k, int what) {
        if (!isTrial(v, k, what)) return -1;
        int just = Integer.bitCount(justBits(s, k));
        int sum = just * (10 - v) + (s.people.size() - just) * v;
        return part(BigInteger.valueOf(sum), BigInteger.TEN, what);
    }

    // ---- what was found

    int see(int p, int k, int found) {
        if (!isIn(s.people, p) || !isCut(k) || found < 0 || found > 2) return -1;
        if (s.seen.size() == 6) return -3;
        s.seen.add(new Seen(p, k, found));
        return s.seen.size();
    }

    int forget(int n) {
        if (n < 0 || n > s.seen.size()) return -1;
        int were = s.seen.size();
        s.seen = new ArrayList<>(s.seen.subList(0, n));
        return were;
    }

    private static boolean asSeen(State s) {
        return s.seen.stream().allMatch(e -> e.cut < s.cells.size() && found(s, e.person, e.cut) == e.found);
    }

    int fits(int i) {
        if (!isIn(s.cells, i)) return -1;
        int bits = 0;
        for (int v = 0; v < 10; v++) {
            State other = s.copy();
            other.cells.set(i, v);
            if (asSeen(other)) bits += 1 << v;
        }
        return bits;
    }

    int kinds(int p) {
        if (!isIn(s.people, p)) return -1;
        int bits = 0;
        for (int kind = 0; kind < 4; kind++) {
            State other = s.copy();
            other.people.set(p, kind);
            if (asSeen(other)) bits += 1 << kind;
        }
        return bits;
    }

    // ---- by a seed

    int drift(int seed, int n, int what) {
        if (n < 1 || n > 60 || what < 0 || what > 1) return -1;
        State other = s.copy();
        BigInteger at = BigInteger.valueOf(seed);
        int sum = 0;
        for (int i = 0; i < n; i++) {
            at = at.multiply(BigInteger.valueOf(1103515245)).add(BigInteger.valueOf(12345));
            int got = at.shiftRight(16).mod(BigInteger.valueOf(32768)).intValueExact();
            other.cells.set(got % other.cells.size(), got / 8 % 10);
            for (int k = 1; k < other.cells.size(); k++) sum += Integer.bitCount(justBits(other, k));
        }
        return what == 0 ? sum : other.cells.stream().mapToInt(Integer::intValue).sum();
    }

    // ---- images, sheets

    int keep(int k) {
        if (k < 0 || k > 1) return -1;
        int was = images[k] == null ? 0 : 1;
        images[k] = s.copy();
        return was;
    }

    int back(int k) {
        if (k < 0 || k > 1) return -1;
        if (images[k] == null) return -2;
        s = images[k].copy();
        return s.cells.size();
    }

    int sheet(int k, int lane, int n) {
        if (k < 0 || k > 3 || lane < 0 || lane > 2 || n > 40) return -1;
        try {
            sheets[k] = lane == 0 ? new byte[n] : lane == 1 ? new short[n] : new int[n];
            return 1;
        } catch (NegativeArraySizeException e) {
            return -14;
        }
    }

    int lay(int k, int i, int v) {
        if (k < 0 || k > 3) return -1;
        try {
            if (sheets[k] instanceof byte[] b) b[i] = (byte) v;
            else if (sheets[k] instanceof short[] h) h[i] = (short) v;
            else ((int[]) sheets[k])[i] = v;
            return 1;
        } catch (NullPointerException e) {
            return -11;
        } catch (ArrayIndexOutOfBoundsException e) {
            return -12;
        }
    }

    private static int laid(Object row, int lane, int i) {
        return lane == 0 ? ((byte[]) row)[i] : lane == 1 ? ((short[]) row)[i] : ((int[]) row)[i];
    }

    int read(int k, int lane, int f, int n) {
        if (k < 0 || k > 3 || lane < 0 || lane > 2 || n < 0 || n > 20) return -1;
        State before = s.copy();
        int came = 0;
        int met = 0;
        try {
            for (; came < n; came++) {
                int i = laid(sheets[k], lane, f + 2 * came);
                int v = laid(sheets[k], lane, f + 2 * came + 1);
                if (weigh(i, v) < 0) {
                    s = before;
                    return -20 - came;
                }
            }
        } catch (NullPointerException e) {
            met = 1;
        } catch (ArrayIndexOutOfBoundsException e) {
            met = 2;
        } catch (ClassCastException e) {
            met = 3;
        }
        torn = met;
        return came;
    }

    int torn() {
        return torn;
    }

    int count(int what) {
        if (what == 0) return s.seen.size();
        if (what == 1) return (images[0] == null ? 0 : 1) + (images[1] == null ? 0 : 1);
        if (what == 2) return tape.length();
        if (what == 3) return sheets[0] == null ? -4 : java.lang.reflect.Array.getLength(sheets[0]);
        return -1;
    }
}
