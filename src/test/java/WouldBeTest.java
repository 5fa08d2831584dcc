/** Promises 27 and 29: the fairest parts and the spread. */
public final class WouldBeTest {
    public static void main(String[] args) {
        fairest();
        fairestOfFour();
        fairestRefused();
        spread();
        Due.end();
    }

    private static void fairest() {
        PenGuild x = Due.guild(6);
        x.order(0, 100);
        fair(x, 0, 0, 0, 0, 0, 0, 0);
        Due.drafts(x, 0, 4);
        fair(x, 0, 0, 0, 0, 0, 1, 0);
        Due.drafts(x, 0, 4, 4, 4, 4, 4, 4, 1);
        fair(x, 0, 0, 1, 0, 0, 4, 0);
        drafted(x, new int[] {0, 1, 1, 2}, 1, 2, 1, 0, 0, 0);
        drafted(x, new int[] {1, 1, 1, 1, 3, 3, 3, 3}, 0, 1, 0, 1, 0, 0);
        drafted(x, new int[] {0, 0, 1, 1, 1, 1, 1}, 1, 3, 0, 0, 0, 0);
        drafted(x, new int[] {0, 0, 0, 0, 0, 1, 1, 1}, 3, 2, 0, 0, 0, 0);
        drafted(x, new int[] {0, 0, 0, 0, 0, 1, 1, 1, 1}, 4, 3, 0, 0, 0, 0);
        drafted(x, new int[] {0, 0, 1, 1, 2, 2, 2, 2, 2}, 1, 1, 3, 0, 0, 0);
        drafted(x, new int[] {5, 5, 1, 1, 2, 2, 2, 2, 2}, 0, 1, 3, 0, 0, 1);
        drafted(x, new int[] {5, 1, 1, 1, 2, 2, 2, 2, 2}, 0, 2, 4, 0, 0, 1);
        killedOneToo(x);
    }

    private static void killedOneToo(PenGuild x) {
        int piece = x.order(3, 100);
        Due.drafts(x, piece, 2, 1, 1);
        x.kill(piece);
        fair(x, piece, 0, 2, 1, 0, 0, 0);
    }

    private static void fairestOfFour() {
        PenGuild x = Due.guild(6);
        drafted(x, new int[] {0, 0, 0, 0, 0, 1, 1, 2, 3}, 3, 1, 1, 1, 0, 0);
        drafted(x, new int[] {0, 5, 5, 5, 5, 5, 1, 2, 2}, 1, 1, 1, 0, 0, 3);
        drafted(x, new int[] {0, 1, 2, 3, 3, 4, 5, 5}, 1, 1, 0, 2, 0, 2);
        drafted(x, new int[] {0, 1, 2, 3, 4, 5}, 1, 1, 1, 1, 0, 0);
        drafted(x, new int[] {0, 1, 1, 2, 2, 3, 3, 4, 4}, 0, 1, 1, 1, 1, 0);
        drafted(x, new int[] {0, 0, 0, 0, 1, 1, 2, 2, 3}, 4, 2, 2, 1, 0, 0);
    }

    /** A new piece with these drafts has these fairest parts. */
    private static void drafted(PenGuild x, int[] pens, int... due) {
        int piece = x.order(3, 100);
        Due.drafts(x, piece, pens);
        fair(x, piece, due);
    }

    private static void fair(PenGuild x, int piece, int... due) {
        long digest = x.digest();
        for (int pen = 0; pen < due.length; pen++) {
            Due.answer("fairest(" + piece + ", " + pen + ")", x.fairest(piece, pen), due[pen]);
        }
        Due.answer("fairest changes nothing", x.digest(), digest);
    }

    private static void fairestRefused() {
        PenGuild x = Due.guild(2);
        x.order(0, 100);
        Due.refused(x, Due.INDEX, "fairest(1, 0)", () -> x.fairest(1, 0));
        Due.refused(x, Due.INDEX, "fairest(-1, 0)", () -> x.fairest(-1, 0));
        Due.refused(x, Due.INDEX, "fairest(0, 2)", () -> x.fairest(0, 2));
        Due.refused(x, Due.INDEX, "fairest(0, -1)", () -> x.fairest(0, -1));
    }

    private static void spread() {
        PenGuild x = Due.guild(3);
        Due.answer("nobody has anything", x.spread(), 0.0);
        Due.earn(x, 1, 100);
        Due.answer("one has all", x.spread(), 200.0 / 300.0);
        Due.earn(x, 0, 30);
        Due.answer("two have all", x.spread(), 200.0 / 390.0);
        Due.earn(x, 2, 60);
        Due.answer("all have some", x.spread(), 140.0 / 570.0);
        Due.earn(x, 2, 40);
        Due.earn(x, 0, 70);
        Due.answer("all have as much", x.spread(), 0.0);
        PenGuild y = Due.guild(1);
        Due.earn(y, 0, 10);
        Due.answer("one pen", y.spread(), 0.0);
        spreadOfMuch();
    }

    private static void spreadOfMuch() {
        PenGuild x = Due.guild(12);
        Due.earn(x, 3, 100000);
        int piece = Due.shared(x, 3, 100000, "3");
        x.accept(piece);
        for (int i = 0; i < 400; i++) {
            x.royalty(piece, 100000);
        }
        Due.answer("all of one of 12", x.spread(), 11.0 / 12.0);
    }
}
