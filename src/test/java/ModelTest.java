import java.util.ArrayList;
import java.util.List;

/** All promises: long runs of calls, right and wrong ones, on the guild and on the model side by side. */
public final class ModelTest {
    private static final int RUNS = 600;
    private static final int CALLS = 512;
    private static final String[] NAMES = {"addPen", "sell", "buyBack", "advance", "withdraw", "set", "nextYear",
        "order", "draft", "revise", "share", "accept", "kill", "royalty", "dispute", "append", "clearBuffer",
        "firstError", "undo", "pen", "piece", "between", "count", "setting", "ifPaid", "fairest", "bestPiece",
        "spread", "digest"};
    // How often each of these comes: those that build the guild up more than those that look at it.
    private static final int[] WEIGHTS = {2, 4, 4, 6, 4, 6, 1, 6, 14, 3, 6, 8, 1, 14, 5, 10, 1, 3, 3, 3, 3, 3, 2, 1,
        4, 4, 3, 1, 3};
    private static final String PIECES_OF_LISTS = "0123456789,,,,***1101!~a";

    private static long seed = 1;

    public static void main(String[] args) {
        for (int run = 0; run < RUNS && !compare(run); run++) {
            continue;
        }
        for (int run = 0; run < 40; run++) {
            runFar(run);
        }
        Due.end();
    }

    /** A sequence of its own, the same in each run of the test. */
    private static int below(int bound) {
        seed = seed * 6364136223846793005L + 1442695040888963407L;
        return (int) ((seed >>> 33) % bound);
    }

    /** Returns whether something was wrong. */
    private static boolean compare(int run) {
        seed = run + 1;
        PenGuild guild = new PenGuild();
        Model model = new Model();
        List<String> told = new ArrayList<>();
        int wild = run % 3 == 0 ? 6 : 40;
        int made = 0;
        while (made < CALLS) {
            int which = made < 2 + run % 11 ? 0 : made == CALLS - 1 ? 28 : choose();
            int[] there = {model.count(0), model.count(1), model.count(3), model.count(5)};
            int[] a = arguments(which, there, wild);
            if (which == 10 && below(5) > 0 && made < CALLS - 30) {
                made += fillBuffer(guild, model, list(model.count(0)));
            }
            made++;
            String due = outcome(() -> ofModel(model, which, a));
            String got = outcome(() -> ofGuild(guild, which, a));
            told.add(NAMES[which] + "(" + a[0] + ", " + a[1] + ", " + a[2] + ") " + got);
            Due.answer("run " + run + ": " + told.get(told.size() - 1) + ", due is " + due, got.equals(due) ? 1 : 0, 1);
            if (!got.equals(due)) {
                told.forEach(System.out::println);
                return true;
            }
        }
        return false;
    }

    /** Beyond the 512 calls no answer is promised, but still no call throws anything that it may not. */
    private static void runFar(int run) {
        seed = 1000 + run;
        PenGuild guild = new PenGuild();
        for (int call = 0; call < 20000; call++) {
            int which = choose();
            int[] there = {guild.count(0), guild.count(1), guild.count(3), guild.count(5)};
            int[] a = arguments(which, there, 10);
            if (which == 13) {
                a[1] = 100000;
            }
            Class<?> thrown = Due.thrownBy(() -> ofGuild(guild, which, a));
            boolean fine = thrown == null || thrown == Due.INDEX || thrown == Due.ARGUMENT || thrown == Due.STATE;
            Due.answer(NAMES[which] + " throws nothing else than " + thrown, fine ? 1 : 0, 1);
        }
    }

    private static int choose() {
        int all = 0;
        for (int weight : WEIGHTS) {
            all += weight;
        }
        int left = below(all);
        for (int which = 0; which < WEIGHTS.length; which++) {
            left -= WEIGHTS[which];
            if (left < 0) {
                return which;
            }
        }
        return 28;
    }

    private static String outcome(Due.Call call) {
        try {
            return "answers " + call.run();
        } catch (RuntimeException e) {
            return "throws " + e.getClass().getName();
        }
    }

    /** Of a guild with so many pens and pieces, such a reserve and such balances. */
    private static int[] arguments(int which, int[] there, int wild) {
        int pen = number(there[0], wild);
        int other = number(there[0], wild);
        int piece = number(there[1], wild);
        int amount = amount(wild);
        switch (which) {
            case 1: return new int[] {pen, other, below(3) == 0 ? there[3] / 20 : amount};
            case 3: return new int[] {pen, below(3) == 0 ? amount : there[2] / (1 + below(9)), 0};
            case 4: return new int[] {pen, amount, 0};
            case 5: return setting(wild);
            case 7: return new int[] {pen, amount, 0};
            case 8: case 14: case 25: return new int[] {piece, pen, 0};
            case 9: case 13: return new int[] {piece, amount, 0};
            case 15: return new int[] {below(wild) == 0 ? below(200) - 20 : oneOf(PIECES_OF_LISTS), 0, 0};
            case 19: return new int[] {pen, number(9, wild), 0};
            case 20: return new int[] {piece, number(10, wild), 0};
            case 21: return new int[] {piece, pen, number(3, wild)};
            case 22: return new int[] {number(14, wild), 0, 0};
            case 23: return new int[] {number(6, wild), 0, 0};
            case 24: return new int[] {piece, amount, pen};
            case 26: return new int[] {pen, amount, 0};
            default: return new int[] {which < 9 ? pen : piece, 0, 0};
        }
    }

    private static int[] setting(int wild) {
        int setting = number(6, wild);
        int[] most = {30, 20, 10000, 100, 100, 100};
        int value = below(wild) == 0 ? below(12000) - 100 : setting < 0 || setting > 5 ? 0 : below(most[setting] + 1);
        return new int[] {setting, setting == 2 && below(2) == 0 ? value / 40 : value, 0};
    }

    private static int number(int bound, int wild) {
        if (below(wild) == 0) {
            int[] ends = {-1, bound, bound + 1, Integer.MIN_VALUE, Integer.MAX_VALUE};
            return ends[below(ends.length)];
        }
        return bound == 0 ? 0 : below(bound);
    }

    private static int amount(int wild) {
        if (below(wild) == 0) {
            int[] ends = {-1, 0, 1, 9, 10, 100000, 100001, Integer.MIN_VALUE, Integer.MAX_VALUE};
            return ends[below(ends.length)];
        }
        int[] bounds = {20, 100, 1000, 5000, 100000};
        return 1 + below(bounds[below(bounds.length)]);
    }

    private static char oneOf(String text) {
        return text.charAt(below(text.length()));
    }

    /** A list of parts, most often a right one. */
    private static String list(int pens) {
        StringBuilder text = new StringBuilder();
        int items = 1 + below(4) + (below(12) == 0 ? 1 : 0);
        int pen = below(12);
        for (int i = 0; i < items; i++) {
            pen = pens == 0 || below(15) == 0 ? below(13) : (pen + 1 + below(3)) % pens;
            text.append(i == 0 ? "" : ",").append(pen);
            text.append(below(2) == 0 ? "" : "*" + (below(15) == 0 ? below(12) : 2 + below(8)));
        }
        return text.toString();
    }

    /** Returns how many calls it made. */
    private static int fillBuffer(PenGuild guild, Model model, String text) {
        guild.clearBuffer();
        model.clearBuffer();
        for (char c : text.toCharArray()) {
            guild.append(c);
            model.append(c);
        }
        return text.length() + 1;
    }

    private static long ofGuild(PenGuild x, int which, int[] a) {
        switch (which) {
            case 0: return x.addPen();
            case 1: return x.sell(a[0], a[1], a[2]);
            case 2: return x.buyBack(a[0]);
            case 3: return x.advance(a[0], a[1]);
            case 4: return x.withdraw(a[0], a[1]);
            case 5: return x.set(a[0], a[1]);
            case 6: return x.nextYear();
            case 7: return x.order(a[0], a[1]);
            case 8: return x.draft(a[0], a[1]);
            case 9: return x.revise(a[0], a[1]);
            case 10: return x.share(a[0]);
            case 11: return x.accept(a[0]);
            case 12: return x.kill(a[0]);
            case 13: return x.royalty(a[0], a[1]);
            case 14: return x.dispute(a[0], a[1]);
            case 15: return x.append(a[0]);
            case 16: return x.clearBuffer();
            case 17: return x.firstError();
            case 18: return x.undo();
            case 19: return x.pen(a[0], a[1]);
            case 20: return x.piece(a[0], a[1]);
            case 21: return x.between(a[0], a[1], a[2]);
            case 22: return x.count(a[0]);
            case 23: return x.setting(a[0]);
            case 24: return x.ifPaid(a[0], a[1], a[2]);
            case 25: return x.fairest(a[0], a[1]);
            case 26: return x.bestPiece(a[0], a[1]);
            case 27: return Double.doubleToLongBits(x.spread());
            default: return x.digest();
        }
    }

    private static long ofModel(Model x, int which, int[] a) {
        switch (which) {
            case 0: return x.addPen();
            case 1: return x.sell(a[0], a[1], a[2]);
            case 2: return x.buyBack(a[0]);
            case 3: return x.advance(a[0], a[1]);
            case 4: return x.withdraw(a[0], a[1]);
            case 5: return x.set(a[0], a[1]);
            case 6: return x.nextYear();
            case 7: return x.order(a[0], a[1]);
            case 8: return x.draft(a[0], a[1]);
            case 9: return x.revise(a[0], a[1]);
            case 10: return x.share(a[0]);
            case 11: return x.accept(a[0]);
            case 12: return x.kill(a[0]);
            case 13: return x.royalty(a[0], a[1]);
            case 14: return x.dispute(a[0], a[1]);
            case 15: return x.append(a[0]);
            case 16: return x.clearBuffer();
            case 17: return x.firstError();
            case 18: return x.undo();
            case 19: return x.pen(a[0], a[1]);
            case 20: return x.piece(a[0], a[1]);
            case 21: return x.between(a[0], a[1], a[2]);
            case 22: return x.count(a[0]);
            case 23: return x.setting(a[0]);
            case 24: return x.ifPaid(a[0], a[1], a[2]);
            case 25: return x.fairest(a[0], a[1]);
            case 26: return x.bestPiece(a[0], a[1]);
            case 27: return Double.doubleToLongBits(x.spread());
            default: return x.digest();
        }
    }
}
