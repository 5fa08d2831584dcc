import java.math.BigInteger;
import java.util.ArrayDeque;
import java.util.ArrayList;
import java.util.Arrays;
import java.util.Comparator;
import java.util.Deque;
import java.util.HashSet;
import java.util.List;
import java.util.Map;
import java.util.Set;
import java.util.TreeMap;

/** The document's guild once more, in another way and with the library's help, to compare answers with. */
final class Model {
    private static final List<String> ITEMS = items();

    private static final class Pen {
        int balance;
        int owed;
        int income;
        int owner;
        int price;
        int paidOut;

        Pen copy() {
            Pen p = new Pen();
            p.balance = balance;
            p.owed = owed;
            p.income = income;
            p.owner = owner;
            p.price = price;
            p.paidOut = paidOut;
            return p;
        }
    }

    private static final class Piece {
        int byline;
        int fee;
        int stage;
        int contract = 1;
        int royalties;
        Map<Integer, Integer> parts = new TreeMap<>();
        Map<Integer, Integer> drafts = new TreeMap<>();
        Map<List<Integer>, Integer> got = new java.util.HashMap<>();

        Piece copy() {
            Piece p = new Piece();
            p.byline = byline;
            p.fee = fee;
            p.stage = stage;
            p.contract = contract;
            p.royalties = royalties;
            p.parts = new TreeMap<>(parts);
            p.drafts = new TreeMap<>(drafts);
            p.got = new java.util.HashMap<>(got);
            return p;
        }

        int allParts() {
            return parts.values().stream().mapToInt(i -> i).sum();
        }

        int allDrafts() {
            return drafts.values().stream().mapToInt(i -> i).sum();
        }

        int got(int pen, int year) {
            return got.getOrDefault(List.of(pen, year), 0);
        }

        boolean disputable(int pen) {
            double part = (double) parts.getOrDefault(pen, 0) * allDrafts();
            return stage != 4 && part < (double) drafts.getOrDefault(pen, 0) * allParts();
        }

        Map<Integer, Integer> topDrafts() {
            List<Map.Entry<Integer, Integer>> all = new ArrayList<>(drafts.entrySet());
            all.sort(Comparator.comparing((Map.Entry<Integer, Integer> e) -> -e.getValue())
                .thenComparing(Map.Entry::getKey));
            Map<Integer, Integer> top = new TreeMap<>();
            all.stream().limit(4).forEach(e -> top.put(e.getKey(), e.getValue()));
            return top;
        }
    }

    private static final class World {
        List<Pen> pens = new ArrayList<>();
        List<Piece> pieces = new ArrayList<>();
        int[] settings = {10, 5, 0, 10, 25, 50};
        int year;
        int reserve;
        int cameIn;
        int disputes;
        int byCap;

        World copy() {
            World w = new World();
            pens.forEach(p -> w.pens.add(p.copy()));
            pieces.forEach(p -> w.pieces.add(p.copy()));
            w.settings = settings.clone();
            w.year = year;
            w.reserve = reserve;
            w.cameIn = cameIn;
            w.disputes = disputes;
            w.byCap = byCap;
            return w;
        }
    }

    private World w = new World();
    private final Deque<World> saved = new ArrayDeque<>();
    private String buffer = "";

    private void save() {
        saved.addLast(w.copy());
        if (saved.size() > 6) {
            saved.removeFirst();
        }
    }

    private static void index(boolean fine) {
        if (!fine) {
            throw new IndexOutOfBoundsException();
        }
    }

    private static void argument(boolean fine) {
        if (!fine) {
            throw new IllegalArgumentException();
        }
    }

    private static void state(boolean fine) {
        if (!fine) {
            throw new IllegalStateException();
        }
    }

    private void penIndex(int pen) {
        index(pen >= 0 && pen < w.pens.size());
    }

    private void pieceIndex(int piece) {
        index(piece >= 0 && piece < w.pieces.size());
    }

    int addPen() {
        state(w.pens.size() < 12);
        save();
        Pen p = new Pen();
        p.owner = w.pens.size();
        w.pens.add(p);
        return p.owner;
    }

    int sell(int byline, int to, int price) {
        penIndex(byline);
        penIndex(to);
        argument(price >= 0 && price <= 100000 && w.pens.get(byline).owner != to);
        state(w.pens.get(to).balance >= price);
        save();
        int owner = w.pens.get(byline).owner;
        w.pens.get(to).balance -= price;
        w.pens.get(owner).balance += price;
        w.pens.get(byline).owner = to;
        w.pens.get(byline).price = price;
        return owner;
    }

    int buyBack(int pen) {
        penIndex(pen);
        Pen p = w.pens.get(pen);
        int pays = p.price * 11 / 10;
        state(p.owner != pen && p.balance >= pays);
        save();
        p.balance -= pays;
        w.pens.get(p.owner).balance += pays;
        p.owner = pen;
        p.price = pays;
        return pays;
    }

    int advance(int pen, int amount) {
        penIndex(pen);
        argument(amount >= 1 && amount <= 100000);
        state(w.reserve >= amount);
        save();
        w.reserve -= amount;
        w.pens.get(pen).balance += amount;
        return w.pens.get(pen).owed += amount;
    }

    int withdraw(int pen, int amount) {
        penIndex(pen);
        argument(amount >= 1 && amount <= 100000);
        state(w.pens.get(pen).balance >= amount);
        save();
        w.pens.get(pen).paidOut += amount;
        return w.pens.get(pen).balance -= amount;
    }

    int set(int setting, int value) {
        index(setting >= 0 && setting < 6);
        int most = setting == 0 ? 30 : setting == 1 ? 20 : setting == 2 ? 10000 : 100;
        argument(value >= 0 && value <= most);
        save();
        int previous = w.settings[setting];
        w.settings[setting] = value;
        return previous;
    }

    int nextYear() {
        save();
        return ++w.year;
    }

    int order(int byline, int fee) {
        penIndex(byline);
        argument(fee >= 10 && fee <= 100000);
        state(w.pieces.size() < 20);
        save();
        Piece p = new Piece();
        p.byline = byline;
        p.fee = fee;
        p.parts.put(byline, 1);
        w.pieces.add(p);
        return w.pieces.size() - 1;
    }

    int draft(int piece, int pen) {
        pieceIndex(piece);
        penIndex(pen);
        state(w.pieces.get(piece).stage <= 2 && w.pieces.get(piece).allDrafts() < 9);
        save();
        Piece p = w.pieces.get(piece);
        p.stage = p.drafts.isEmpty() ? 1 : 2;
        p.drafts.merge(pen, 1, Integer::sum);
        return p.stage;
    }

    int revise(int piece, int fee) {
        pieceIndex(piece);
        argument(fee >= 10 && fee <= 100000);
        state(w.pieces.get(piece).stage <= 2);
        save();
        Piece p = w.pieces.get(piece);
        int previous = p.fee;
        p.fee = fee;
        p.contract++;
        return previous;
    }

    int share(int piece) {
        pieceIndex(piece);
        argument(isWhole(buffer));
        Map<Integer, Integer> parts = new TreeMap<>();
        for (String item : buffer.split(",")) {
            String[] halves = item.split("\\*");
            parts.put(Integer.parseInt(halves[0]), halves.length == 1 ? 1 : Integer.parseInt(halves[1]));
        }
        argument(parts.keySet().stream().allMatch(pen -> pen < w.pens.size()));
        state(w.pieces.get(piece).stage != 4);
        save();
        buffer = "";
        Piece p = w.pieces.get(piece);
        p.parts = parts;
        p.contract++;
        return p.allParts();
    }

    private static List<String> items() {
        List<String> all = new ArrayList<>();
        for (int pen = 0; pen < 12; pen++) {
            all.add("" + pen);
            for (int parts = 2; parts <= 9; parts++) {
                all.add(pen + "*" + parts);
            }
        }
        return all;
    }

    private static String penOf(String item) {
        return item.split("\\*")[0];
    }

    /** If the items ahead of the last comma are those of a list: the pens in them, else null. */
    private static Set<String> pensBefore(String[] items, int number) {
        Set<String> pens = new HashSet<>();
        for (int i = 0; i < number; i++) {
            if (!ITEMS.contains(items[i]) || !pens.add(penOf(items[i]))) {
                return null;
            }
        }
        return pens;
    }

    private static boolean isWhole(String text) {
        String[] items = text.split(",", -1);
        return items.length <= 4 && pensBefore(items, items.length) != null;
    }

    private static boolean canBegin(String text) {
        String[] items = text.split(",", -1);
        if (items.length > 4) {
            return false;
        }
        Set<String> pens = pensBefore(items, items.length - 1);
        String last = items[items.length - 1];
        return pens != null && ITEMS.stream().anyMatch(i -> i.startsWith(last) && !pens.contains(penOf(i)));
    }

    private record Paid(int percent, int owner, int ofByline, int byCap, int[] ofParts) {
    }

    private Paid divide(int piece, int amount, boolean royalties) {
        Piece p = w.pieces.get(piece);
        int percent = amount * w.settings[0] / 100;
        int ofByline = royalties ? amount * w.settings[1] / 100 : 0;
        int rest = amount - percent - ofByline;
        int all = p.allParts();
        int[] ofParts = new int[12];
        List<Integer> sharers = new ArrayList<>(p.parts.keySet());
        int given = 0;
        for (int pen : sharers) {
            ofParts[pen] = rest * p.parts.get(pen) / all;
            given += ofParts[pen];
        }
        sharers.sort(Comparator.comparing((Integer pen) -> -(rest * p.parts.get(pen) % all)).thenComparing(pen -> pen));
        for (int i = 0; i < rest - given; i++) {
            ofParts[sharers.get(i)]++;
        }
        int byCap = 0;
        if (royalties && w.settings[2] > 0) {
            for (int pen : sharers) {
                int gets = Math.min(ofParts[pen], Math.max(w.settings[2] - p.got(pen, w.year), 0));
                byCap += ofParts[pen] - gets;
                ofParts[pen] = gets;
            }
        }
        return new Paid(percent, w.pens.get(p.byline).owner, ofByline, byCap, ofParts);
    }

    private int income(int pen, int amount) {
        Pen p = w.pens.get(pen);
        int held = Math.min((amount + 1) / 2, p.owed);
        p.income += amount;
        p.owed -= held;
        p.balance += amount - held;
        return held;
    }

    private int bring(int piece, int amount, boolean royalties) {
        Paid paid = divide(piece, amount, royalties);
        int reserve = paid.percent + paid.byCap + income(paid.owner, paid.ofByline);
        for (int pen = 0; pen < w.pens.size(); pen++) {
            reserve += income(pen, paid.ofParts[pen]);
            if (royalties) {
                w.pieces.get(piece).got.merge(List.of(pen, w.year), paid.ofParts[pen], Integer::sum);
            }
        }
        w.byCap += paid.byCap;
        w.cameIn += amount;
        w.reserve += reserve;
        return reserve;
    }

    int accept(int piece) {
        pieceIndex(piece);
        state(w.pieces.get(piece).stage == 1 || w.pieces.get(piece).stage == 2);
        save();
        w.pieces.get(piece).stage = 3;
        return bring(piece, w.pieces.get(piece).fee, false);
    }

    int kill(int piece) {
        pieceIndex(piece);
        state(w.pieces.get(piece).stage <= 2);
        save();
        int fee = piece(piece, 8);
        w.pieces.get(piece).stage = 4;
        bring(piece, fee, false);
        return fee;
    }

    int royalty(int piece, int amount) {
        pieceIndex(piece);
        argument(amount >= 1 && amount <= 100000);
        state(w.pieces.get(piece).stage == 3);
        save();
        w.pieces.get(piece).royalties += amount;
        return bring(piece, amount, true);
    }

    int dispute(int piece, int pen) {
        pieceIndex(piece);
        penIndex(pen);
        state(w.pieces.get(piece).disputable(pen));
        save();
        Piece p = w.pieces.get(piece);
        p.parts = p.topDrafts();
        p.contract++;
        w.disputes++;
        return p.parts.getOrDefault(pen, 0);
    }

    int append(int code) {
        argument(code >= 33 && code <= 126);
        state(buffer.length() < 60);
        buffer += (char) code;
        return buffer.length();
    }

    int clearBuffer() {
        int length = buffer.length();
        buffer = "";
        return length;
    }

    int firstError() {
        int right = 0;
        while (right < buffer.length() && canBegin(buffer.substring(0, right + 1))) {
            right++;
        }
        return right;
    }

    int undo() {
        state(!saved.isEmpty());
        w = saved.removeLast();
        return saved.size();
    }

    int pen(int pen, int what) {
        penIndex(pen);
        argument(what >= 0 && what <= 8);
        Pen p = w.pens.get(pen);
        List<Integer> order = new ArrayList<>();
        for (int i = 0; i < w.pens.size(); i++) {
            order.add(i);
        }
        order.sort(Comparator.comparing((Integer i) -> -w.pens.get(i).balance));
        int bylines = (int) w.pens.stream().filter(q -> q.owner == pen).count();
        int drafts = w.pieces.stream().mapToInt(q -> q.drafts.getOrDefault(pen, 0)).sum();
        return new int[] {p.balance, p.owed, p.income, p.owner, p.price, bylines, p.paidOut, drafts,
            order.indexOf(pen)}[what];
    }

    int piece(int piece, int what) {
        pieceIndex(piece);
        argument(what >= 0 && what <= 9);
        Piece p = w.pieces.get(piece);
        int killFee = p.stage > 2 ? 0 : p.fee * w.settings[3 + p.stage] / 100;
        int bits = 0;
        for (int pen = 0; pen < w.pens.size(); pen++) {
            bits += p.disputable(pen) ? (int) Math.pow(2, pen) : 0;
        }
        return new int[] {p.byline, p.fee, p.stage, p.contract, p.allDrafts(), p.parts.size(), p.allParts(),
            p.royalties, killFee, bits}[what];
    }

    int between(int piece, int pen, int what) {
        pieceIndex(piece);
        penIndex(pen);
        argument(what >= 0 && what <= 2);
        Piece p = w.pieces.get(piece);
        return new int[] {p.parts.getOrDefault(pen, 0), p.drafts.getOrDefault(pen, 0), p.got(pen, w.year)}[what];
    }

    int count(int what) {
        argument(what >= 0 && what <= 13);
        int away = 0;
        for (int pen = 0; pen < w.pens.size(); pen++) {
            away += w.pens.get(pen).owner == pen ? 0 : 1;
        }
        return new int[] {w.pens.size(), w.pieces.size(), w.year, w.reserve, w.cameIn,
            w.pens.stream().mapToInt(p -> p.balance).sum(), w.pens.stream().mapToInt(p -> p.owed).sum(),
            w.pens.stream().mapToInt(p -> p.paidOut).sum(), (int) w.pieces.stream().filter(p -> p.stage == 3).count(),
            (int) w.pieces.stream().filter(p -> p.stage == 4).count(), w.disputes, away, w.byCap, saved.size()}[what];
    }

    int setting(int setting) {
        index(setting >= 0 && setting < 6);
        return w.settings[setting];
    }

    int ifPaid(int piece, int amount, int pen) {
        pieceIndex(piece);
        penIndex(pen);
        argument(amount >= 1 && amount <= 100000);
        state(w.pieces.get(piece).stage == 3);
        World kept = w.copy();
        bring(piece, amount, true);
        int gain = w.pens.get(pen).balance - kept.pens.get(pen).balance;
        w = kept;
        return gain;
    }

    private record Fair(BigInteger gap, BigInteger sum, int[] parts) {
    }

    /** Fractions are compared as whole numbers: each gap times a number that all sums of parts divide. */
    private static int[] fairestOf(List<Integer> drafts) {
        BigInteger common = BigInteger.ONE;
        for (int i = 2; i <= 16; i++) {
            common = common.multiply(BigInteger.valueOf(i)).divide(common.gcd(BigInteger.valueOf(i)));
        }
        int all = drafts.stream().mapToInt(i -> i).sum();
        List<Fair> trials = new ArrayList<>();
        int[] trial = new int[drafts.size()];
        fill(trials, trial, 0, drafts, all, common);
        trials.sort(Comparator.comparing(Fair::gap).thenComparing(Fair::sum)
            .thenComparing(Fair::parts, Arrays::compare));
        return trials.get(0).parts;
    }

    private static void fill(List<Fair> trials, int[] trial, int at, List<Integer> drafts, int all, BigInteger common) {
        if (at < trial.length) {
            for (int parts = 1; parts <= 4; parts++) {
                trial[at] = parts;
                fill(trials, trial, at + 1, drafts, all, common);
            }
            return;
        }
        int sum = Arrays.stream(trial).sum();
        BigInteger gap = BigInteger.ZERO;
        for (int i = 0; i < trial.length; i++) {
            long mine = (long) trial[i] * (common.longValueExact() / sum) * all;
            long due = (long) drafts.get(i) * common.longValueExact();
            gap = gap.max(BigInteger.valueOf(Math.abs(mine - due)));
        }
        trials.add(new Fair(gap, BigInteger.valueOf(sum), trial.clone()));
    }

    private static final Map<List<Integer>, int[]> FAIREST = new java.util.HashMap<>();

    int fairest(int piece, int pen) {
        pieceIndex(piece);
        penIndex(pen);
        Map<Integer, Integer> top = w.pieces.get(piece).topDrafts();
        int at = new ArrayList<>(top.keySet()).indexOf(pen);
        return at < 0 ? 0 : FAIREST.computeIfAbsent(new ArrayList<>(top.values()), Model::fairestOf)[at];
    }

    int bestPiece(int pen, int amount) {
        penIndex(pen);
        argument(amount >= 1 && amount <= 100000);
        int best = -1;
        for (int piece = w.pieces.size() - 1; piece >= 0; piece--) {
            if (w.pieces.get(piece).stage == 3
                    && (best < 0 || ifPaid(piece, amount, pen) >= ifPaid(best, amount, pen))) {
                best = piece;
            }
        }
        return best;
    }

    double spread() {
        int all = 0;
        for (Pen one : w.pens) {
            for (Pen other : w.pens) {
                all += Math.max(0, one.balance - other.balance);
            }
        }
        return count(5) == 0 ? 0.0 : (double) all / (w.pens.size() * count(5));
    }

    long digest() {
        List<Long> values = new ArrayList<>();
        for (int what = 0; what < 14; what++) {
            values.add((long) count(what));
        }
        for (int setting : w.settings) {
            values.add((long) setting);
        }
        for (int pen = 0; pen < w.pens.size(); pen++) {
            for (int what = 0; what < 9; what++) {
                values.add((long) pen(pen, what));
            }
            values.add((long) bestPiece(pen, 100));
        }
        for (int piece = 0; piece < w.pieces.size(); piece++) {
            for (int what = 0; what < 10; what++) {
                values.add((long) piece(piece, what));
            }
            for (int pen = 0; pen < w.pens.size(); pen++) {
                for (int what = 0; what < 3; what++) {
                    values.add((long) between(piece, pen, what));
                }
                values.add((long) fairest(piece, pen));
            }
        }
        values.add(Double.doubleToLongBits(spread()));
        values.add((long) buffer.length());
        buffer.chars().forEach(c -> values.add((long) c));
        long hash = 2281;
        for (long value : values) {
            hash = 31 * hash + value;
        }
        return hash;
    }
}
