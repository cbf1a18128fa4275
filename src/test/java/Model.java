import java.math.BigInteger;
import java.util.ArrayList;
import java.util.Arrays;
import java.util.HashMap;
import java.util.List;
import java.util.Map;

/** The document word by word, with no thought of speed: what ModelTest holds the class against. */
final class Model {
    static final int NONE = -1, UNKNOWN = -101, OUTSIDE = -102, STATE = -103, FULL = -104;
    private static final String KIND_LETTERS = "?bmpw";

    static final class Frond {
        int kind;
        int leaflets;
        int owner;
        List<Integer> tears = new ArrayList<>();

        Frond(int kind, int leaflets, int owner) {
            this.kind = kind;
            this.leaflets = leaflets;
            this.owner = owner;
        }

        Frond copy() {
            Frond other = new Frond(kind, leaflets, owner);
            other.tears = new ArrayList<>(tears);
            return other;
        }

        int hand(int to) {
            int loss = 1;
            if (kind == 1) {
                loss = 2;
            } else if (kind == 4) {
                loss = 3;
            } else if ((kind == 2 && leaflets > 5) || (kind == 3 && leaflets == 9)) {
                loss = 0;
            }
            loss = Math.min(loss, leaflets);
            leaflets -= loss;
            tears.add(0, owner);
            if (tears.size() > 4) {
                tears.remove(4);
            }
            owner = to;
            return loss;
        }

        int damp() {
            if (owner == NONE) {
                return 0;
            }
            int loss = Math.min(leaflets, kind == 3 ? 0 : kind == 4 ? 2 : 1);
            leaflets -= loss;
            return loss;
        }

        int behindHand() {
            Frond other = copy();
            other.hand(NONE);
            return other.leaflets;
        }
    }

    private List<Frond> fronds = new ArrayList<>();
    private int[][] debts = new int[6][6];
    private int lostByHands;
    private int lostByMould;
    private List<Frond> keptFronds;
    private int[][] keptDebts;
    private int keptByHands;
    private int keptByMould;
    private String page = "";

    private boolean none(int frond) {
        return frond < 0 || frond >= fronds.size();
    }

    private static boolean nobody(int person) {
        return person < 0 || person > 5;
    }

    int letters(long w) {
        StringBuilder more = new StringBuilder();
        byte[] bytes = new byte[8];
        for (int i = 0; i < 8; i++) {
            bytes[i] = (byte) (w >> (8 * i));
            if (bytes[i] < 0 || bytes[i] > 126) {
                return OUTSIDE;
            }
        }
        int end = 0;
        while (end < 8 && bytes[end] != 0) {
            more.append((char) bytes[end++]);
        }
        for (int i = end; i < 8; i++) {
            if (bytes[i] != 0) {
                return OUTSIDE;
            }
        }
        if (page.length() + more.length() > 22) {
            return FULL;
        }
        page += more;
        return page.length();
    }

    int blank() {
        int had = page.length();
        page = "";
        return had;
    }

    int fault() {
        for (int i = 0; i < page.length(); i++) {
            String start = page.substring(0, i + 1);
            if (!start.matches("(?s)([bmpw]?[0-9]){1,10}|([bmpw]?[0-9]){0,9}[bmpw]")) {
                return i;
            }
        }
        return page.length();
    }

    int book(int person) {
        if (nobody(person)) {
            return UNKNOWN;
        }
        if (!page.matches("(?s)([bmpw]?[0-9]){1,10}")) {
            return STATE;
        }
        String digits = page.replaceAll("[^0-9]", "");
        if (fronds.size() + digits.length() > 10) {
            return FULL;
        }
        for (int i = 0; i < page.length(); i++) {
            if (Character.isDigit(page.charAt(i))) {
                int kind = i == 0 ? 0 : Math.max(0, KIND_LETTERS.indexOf(page.charAt(i - 1)));
                fronds.add(new Frond(kind, page.charAt(i) - '0', person));
            }
        }
        page = "";
        return digits.length();
    }

    int about(int frond, int what) {
        if (none(frond)) {
            return UNKNOWN;
        }
        Frond f = fronds.get(frond);
        if (what < 0 || what > 7) {
            return OUTSIDE;
        }
        if (what >= 4) {
            return what - 4 < f.tears.size() ? f.tears.get(what - 4) : NONE;
        }
        return new int[] {f.kind, f.leaflets, f.owner, f.behindHand()}[what];
    }

    int as(int frond, int kind) {
        if (none(frond)) {
            return UNKNOWN;
        }
        if (kind < 0 || kind > 4) {
            return OUTSIDE;
        }
        String such = new String[] {"0", "01", "02", "03", "014"}[fronds.get(frond).kind];
        return such.indexOf('0' + kind) >= 0 ? frond : NONE;
    }

    int snap(int frond, int leaflets) {
        if (none(frond)) {
            return UNKNOWN;
        }
        Frond f = fronds.get(frond);
        if (leaflets < 1 || leaflets > 8) {
            return OUTSIDE;
        }
        if (f.owner == NONE || leaflets >= f.leaflets) {
            return STATE;
        }
        if (fronds.size() == 10) {
            return FULL;
        }
        f.leaflets -= leaflets;
        fronds.add(new Frond(0, leaflets, f.owner));
        return fronds.size() - 1;
    }

    int pay(int frond, int to) {
        if (none(frond) || nobody(to)) {
            return UNKNOWN;
        }
        Frond f = fronds.get(frond);
        if (f.owner == NONE || f.owner == to) {
            return STATE;
        }
        int from = f.owner;
        lostByHands += f.hand(to);
        debts[from][to] = Math.max(0, debts[from][to] - f.leaflets);
        return f.leaflets;
    }

    int debt(int a, int b, int v) {
        if (nobody(a) || nobody(b) || a == b) {
            return UNKNOWN;
        }
        if (v < 0 || v > 99) {
            return OUTSIDE;
        }
        int did = debts[a][b];
        debts[a][b] = v;
        return did;
    }

    int owes(int a, int b) {
        return nobody(a) || nobody(b) || a == b ? UNKNOWN : debts[a][b];
    }

    int bank(int frond) {
        if (none(frond)) {
            return UNKNOWN;
        }
        Frond f = fronds.get(frond);
        if (f.owner == NONE) {
            return STATE;
        }
        lostByHands += f.hand(NONE);
        return f.leaflets;
    }

    int fetch(int frond, int to) {
        if (none(frond) || nobody(to)) {
            return UNKNOWN;
        }
        Frond f = fronds.get(frond);
        if (f.owner != NONE) {
            return STATE;
        }
        f.owner = to;
        return f.leaflets;
    }

    int month(boolean damp) {
        int lost = 0;
        if (damp) {
            for (Frond f : fronds) {
                lost += f.damp();
            }
        }
        lostByMould += lost;
        return lost;
    }

    int june() {
        List<Frond> ahead = new ArrayList<>(fronds);
        int news = 0;
        for (int person = 0; person < 6; person++) {
            boolean has = false;
            for (Frond f : ahead) {
                has |= f.owner == person && f.leaflets == 9;
            }
            if (has && fronds.size() < 10) {
                fronds.add(new Frond(0, 9, person));
                news++;
            }
        }
        return news;
    }

    int least(int payer, int sum, int what) {
        if (nobody(payer)) {
            return UNKNOWN;
        }
        if (sum < 1 || sum > 99 || what < 0 || what > 1) {
            return OUTSIDE;
        }
        int[] best = null;
        for (int bits = 0; bits < 1 << fronds.size(); bits++) {
            int now = 0;
            int then = 0;
            boolean his = true;
            for (int i = 0; i < fronds.size(); i++) {
                if ((bits & 1 << i) != 0) {
                    his &= fronds.get(i).owner == payer;
                    now += fronds.get(i).leaflets;
                    then += fronds.get(i).behindHand();
                }
            }
            int[] told = {now, Integer.bitCount(bits), bits};
            if (his && then >= sum && (best == null || Arrays.compare(told, best) < 0)) {
                best = told;
            }
        }
        return best == null ? NONE : best[what * 2];
    }

    private int[] ring() {
        List<int[]> rings = new ArrayList<>();
        rows(new int[0], rings);
        int[] best = new int[0];
        for (int[] r : rings) {
            if (r.length > best.length || (r.length == best.length && Arrays.compare(r, best) < 0)) {
                best = r;
            }
        }
        return best;
    }

    /** All rows of people, nobody twice, that are rings and begin with the least. */
    private void rows(int[] row, List<int[]> rings) {
        boolean isRing = row.length >= 2;
        for (int i = 0; i < row.length; i++) {
            isRing &= row[0] <= row[i] && debts[row[i]][row[(i + 1) % row.length]] > 0;
        }
        if (isRing) {
            rings.add(row);
        }
        for (int person = 0; person < 6; person++) {
            int wanted = person;
            if (Arrays.stream(row).noneMatch(p -> p == wanted)) {
                int[] longer = Arrays.copyOf(row, row.length + 1);
                longer[row.length] = person;
                rows(longer, rings);
            }
        }
    }

    private int ringLeast(int[] r) {
        int least = Integer.MAX_VALUE;
        for (int i = 0; i < r.length; i++) {
            least = Math.min(least, debts[r[i]][r[(i + 1) % r.length]]);
        }
        return r.length == 0 ? NONE : least;
    }

    private int ringTold(int[] r, int what) {
        if (what == 0) {
            return r.length;
        }
        if (what == 1) {
            return ringLeast(r);
        }
        return what - 10 < r.length ? r[what - 10] : NONE;
    }

    int ring(int what) {
        if (what < 0 || what > 15 || (what > 1 && what < 10)) {
            return OUTSIDE;
        }
        return ringTold(ring(), what);
    }

    int clear() {
        int[] r = ring();
        if (r.length == 0) {
            return STATE;
        }
        int by = ringLeast(r);
        for (int i = 0; i < r.length; i++) {
            debts[r[i]][r[(i + 1) % r.length]] -= by;
        }
        return by;
    }

    int fewest() {
        return 6 - mostGroups(0, new int[6], new int[6], 0);
    }

    private int mostGroups(int person, int[] owe, int[] owed, int groups) {
        if (person == 6) {
            for (int g = 0; g < groups; g++) {
                if (owe[g] != owed[g]) {
                    return 0;
                }
            }
            return groups;
        }
        int most = 0;
        for (int g = 0; g <= groups && g < 6; g++) {
            int[] oweThen = owe.clone();
            int[] owedThen = owed.clone();
            for (int other = 0; other < 6; other++) {
                oweThen[g] += debts[person][other];
                owedThen[g] += debts[other][person];
            }
            most = Math.max(most, mostGroups(person + 1, oweThen, owedThen, Math.max(groups, g + 1)));
        }
        return most;
    }

    /** Above and below, over all rows of damp and dry months. */
    private BigInteger[] mean(int frond, int months, int tenths) {
        BigInteger above = BigInteger.ZERO;
        for (int row = 0; row < 1 << months; row++) {
            Frond f = fronds.get(frond).copy();
            BigInteger chance = BigInteger.ONE;
            for (int i = 0; i < months; i++) {
                boolean damp = (row >> i & 1) == 1;
                chance = chance.multiply(BigInteger.valueOf(damp ? tenths : 10 - tenths));
                if (damp) {
                    f.damp();
                }
            }
            above = above.add(chance.multiply(BigInteger.valueOf(f.behindHand())));
        }
        BigInteger below = BigInteger.TEN.pow(months);
        BigInteger common = above.gcd(below);
        return new BigInteger[] {above.divide(common), below.divide(common)};
    }

    long held(int frond, int months, int tenths, int part) {
        if (none(frond)) {
            return UNKNOWN;
        }
        if (months < 0 || months > 9 || tenths < 0 || tenths > 10 || part < 0 || part > 1) {
            return OUTSIDE;
        }
        return mean(frond, months, tenths)[part].longValueExact();
    }

    int when(int frond, int months, int tenths) {
        if (none(frond)) {
            return UNKNOWN;
        }
        if (months < 0 || months > 9 || tenths < 0 || tenths > 10) {
            return OUTSIDE;
        }
        BigInteger[] first = mean(frond, 0, tenths);
        for (int m = months; m > 0; m--) {
            BigInteger[] then = mean(frond, m, tenths);
            if (then[0].multiply(first[1]).compareTo(first[0].multiply(then[1])) >= 0) {
                return m;
            }
        }
        return 0;
    }

    int went(int frond, int from, int hands, int months) {
        if (none(frond) || nobody(from)) {
            return UNKNOWN;
        }
        if (hands < 0 || hands > 6 || months < 0 || months > 4) {
            return OUTSIDE;
        }
        Frond end = fronds.get(frond);
        if (end.owner == NONE) {
            return STATE;
        }
        return rowsTo(end, new Frond(end.kind, 9, from), hands, months);
    }

    private static int rowsTo(Frond end, Frond now, int hands, int months) {
        if (hands == 0 && months == 0) {
            return now.leaflets == end.leaflets && now.owner == end.owner && now.tears.equals(end.tears) ? 1 : 0;
        }
        int ways = 0;
        if (months > 0) {
            Frond then = now.copy();
            then.damp();
            ways += rowsTo(end, then, hands, months - 1);
        }
        for (int to = 0; hands > 0 && to < 6; to++) {
            if (to != now.owner) {
                Frond then = now.copy();
                then.hand(to);
                ways += rowsTo(end, then, hands - 1, months);
            }
        }
        return ways;
    }

    int months(int times, int tenths, int seed, int what) {
        if (times < 1 || times > 60 || tenths < 0 || tenths > 10 || seed < 0 || what < 0 || what > 2) {
            return OUTSIDE;
        }
        List<Frond> would = new ArrayList<>();
        for (Frond f : fronds) {
            would.add(f.copy());
        }
        long[] s = {seed};
        int damp = 0;
        for (int i = 0; i < times; i++) {
            if (draw(s, 10) < tenths) {
                damp++;
                for (Frond f : would) {
                    f.damp();
                }
            }
            if (!would.isEmpty()) {
                Frond f = would.get(draw(s, would.size()));
                int person = draw(s, 6);
                if (f.owner != NONE && f.owner != person) {
                    f.hand(person);
                }
            }
        }
        int all = 0;
        for (Frond f : would) {
            all += f.leaflets;
        }
        return what == 0 ? all : what == 1 ? damp : (int) s[0];
    }

    private static int draw(long[] seed, int of) {
        seed[0] = BigInteger.valueOf(1103515245).multiply(BigInteger.valueOf(seed[0])).add(BigInteger.valueOf(12345))
            .mod(BigInteger.TWO.pow(31)).longValueExact();
        return (int) (seed[0] / 65536 % of);
    }

    int image() {
        keptFronds = new ArrayList<>();
        for (Frond f : fronds) {
            keptFronds.add(f.copy());
        }
        keptDebts = new int[6][];
        for (int a = 0; a < 6; a++) {
            keptDebts[a] = debts[a].clone();
        }
        keptByHands = lostByHands;
        keptByMould = lostByMould;
        return fronds.size();
    }

    int restore() {
        if (keptFronds == null) {
            return STATE;
        }
        fronds = keptFronds;
        debts = keptDebts;
        lostByHands = keptByHands;
        lostByMould = keptByMould;
        return image();
    }

    int count(int what) {
        Map<Integer, Integer> told = new HashMap<>();
        told.put(0, fronds.size());
        told.put(1, fronds.stream().mapToInt(f -> f.leaflets).sum());
        told.put(2, lostByHands);
        told.put(3, lostByMould);
        told.put(4, (int) fronds.stream().filter(f -> f.owner == NONE).count());
        told.put(5, page.length());
        told.put(6, Arrays.stream(debts).flatMapToInt(Arrays::stream).sum());
        return told.getOrDefault(what, OUTSIDE);
    }

    long digest() {
        List<Long> numbers = new ArrayList<>();
        for (int frond = 0; frond < fronds.size(); frond++) {
            for (int what = 0; what <= 7; what++) {
                numbers.add((long) about(frond, what));
            }
            numbers.add(held(frond, 3, 5, 0));
            numbers.add(held(frond, 3, 5, 1));
        }
        for (int a = 0; a < 6; a++) {
            for (int b = 0; b < 6; b++) {
                if (a != b) {
                    numbers.add((long) debts[a][b]);
                }
            }
        }
        int[] r = ring();
        for (int what : new int[] {0, 1, 10, 11, 12, 13, 14, 15}) {
            numbers.add((long) ringTold(r, what));
        }
        numbers.add((long) fewest());
        for (int person = 0; person < 6; person++) {
            numbers.add((long) least(person, 7, 0));
            numbers.add((long) least(person, 7, 1));
        }
        page.chars().forEach(code -> numbers.add((long) code));
        for (int what = 0; what <= 6; what++) {
            numbers.add((long) count(what));
        }
        long h = 661;
        for (long n : numbers) {
            h = 31 * h + n;
        }
        return h;
    }
}
