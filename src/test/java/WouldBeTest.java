/** Promises 27, 29 and 30: the fairest parts, the spread and the digest. */
public final class WouldBeTest {
    public static void main(String[] args) {
        fairest();
        fairestOfFour();
        fairestRefused();
        spread();
        digest();
        digestOfTheAmount();
        Due.end();
    }

    private static void fairest() {
        PenGuild x = Due.guild(6);
        x.order(0, 100);
        fair(x, 0, 0, 0, 0, 0, 0, 0);
        Due.drafts(x, 0, 4);
        fair(x, 0, 0, 0, 0, 0, 1, 0);
        Due.drafts(x, 0, 4, 4, 4, 4, 4, 4, 1);
        fair(x, 0, 0, 1, 0, 0, 4, 0);
        drafted(x, new int[] {0, 1, 1, 2}, 1, 2, 1, 0, 0, 0);
        drafted(x, new int[] {1, 1, 1, 1, 3, 3, 3, 3}, 0, 1, 0, 1, 0, 0);
        drafted(x, new int[] {0, 0, 1, 1, 1, 1, 1}, 1, 3, 0, 0, 0, 0);
        drafted(x, new int[] {0, 0, 0, 0, 0, 1, 1, 1}, 3, 2, 0, 0, 0, 0);
        drafted(x, new int[] {0, 0, 0, 0, 0, 1, 1, 1, 1}, 4, 3, 0, 0, 0, 0);
        drafted(x, new int[] {0, 0, 1, 1, 2, 2, 2, 2, 2}, 1, 1, 3, 0, 0, 0);
        drafted(x, new int[] {5, 5, 1, 1, 2, 2, 2, 2, 2}, 0, 1, 3, 0, 0, 1);
        drafted(x, new int[] {5, 1, 1, 1, 2, 2, 2, 2, 2}, 0, 2, 4, 0, 0, 1);
        killedOneToo(x);
    }

    private static void killedOneToo(PenGuild x) {
        int piece = x.order(3, 100);
        Due.drafts(x, piece, 2, 1, 1);
        x.kill(piece);
        fair(x, piece, 0, 2, 1, 0, 0, 0);
    }

    private static void fairestOfFour() {
        PenGuild x = Due.guild(6);
        drafted(x, new int[] {0, 0, 0, 0, 0, 1, 1, 2, 3}, 3, 1, 1, 1, 0, 0);
        drafted(x, new int[] {0, 5, 5, 5, 5, 5, 1, 2, 2}, 1, 1, 1, 0, 0, 3);
        drafted(x, new int[] {0, 1, 2, 3, 3, 4, 5, 5}, 1, 1, 0, 2, 0, 2);
        drafted(x, new int[] {0, 1, 2, 3, 4, 5}, 1, 1, 1, 1, 0, 0);
        drafted(x, new int[] {0, 1, 1, 2, 2, 3, 3, 4, 4}, 0, 1, 1, 1, 1, 0);
        drafted(x, new int[] {0, 0, 0, 0, 1, 1, 2, 2, 3}, 4, 2, 2, 1, 0, 0);
    }

    /** A new piece with these drafts has these fairest parts. */
    private static void drafted(PenGuild x, int[] pens, int... due) {
        int piece = x.order(3, 100);
        Due.drafts(x, piece, pens);
        fair(x, piece, due);
    }

    private static void fair(PenGuild x, int piece, int... due) {
        long digest = x.digest();
        for (int pen = 0; pen < due.length; pen++) {
            Due.answer("fairest(" + piece + ", " + pen + ")", x.fairest(piece, pen), due[pen]);
        }
        Due.answer("fairest changes nothing", x.digest(), digest);
    }

    private static void fairestRefused() {
        PenGuild x = Due.guild(2);
        x.order(0, 100);
        Due.refused(x, Due.INDEX, "fairest(1, 0)", () -> x.fairest(1, 0));
        Due.refused(x, Due.INDEX, "fairest(-1, 0)", () -> x.fairest(-1, 0));
        Due.refused(x, Due.INDEX, "fairest(0, 2)", () -> x.fairest(0, 2));
        Due.refused(x, Due.INDEX, "fairest(0, -1)", () -> x.fairest(0, -1));
    }

    private static void spread() {
        PenGuild x = Due.guild(3);
        Due.answer("nobody has anything", x.spread(), 0.0);
        Due.earn(x, 1, 100);
        Due.answer("one has all", x.spread(), 200.0 / 300.0);
        Due.earn(x, 0, 30);
        Due.answer("two have all", x.spread(), 200.0 / 390.0);
        Due.earn(x, 2, 60);
        Due.answer("all have some", x.spread(), 140.0 / 570.0);
        Due.earn(x, 2, 40);
        Due.earn(x, 0, 70);
        Due.answer("all have as much", x.spread(), 0.0);
        PenGuild y = Due.guild(1);
        Due.earn(y, 0, 10);
        Due.answer("one pen", y.spread(), 0.0);
        spreadOfMuch();
    }

    private static void spreadOfMuch() {
        PenGuild x = Due.guild(12);
        Due.earn(x, 3, 100000);
        int piece = Due.shared(x, 3, 100000, "3");
        x.accept(piece);
        for (int i = 0; i < 400; i++) {
            x.royalty(piece, 100000);
        }
        Due.answer("the digest of much", x.digest(), digestOf(x, ""));
        Due.answer("all of one of 12", x.spread(), 11.0 / 12.0);
    }

    private static void digest() {
        PenGuild x = Due.guild(12);
        Due.answer("digest of pens", x.digest(), digestOf(x, ""));
        Due.write(x, "0*2,~");
        Due.answer("digest with a buffer", x.digest(), digestOf(x, "0*2,~"));
        for (int i = 0; i < 20; i++) {
            int piece = Due.shared(x, i % 12, 1000 + 37 * i, i % 3 == 0 ? "0,11*3" : "2*3,5,10,1");
            Due.drafts(x, piece, i % 5, i % 7, i % 11, i % 4, i % 4);
        }
        for (int piece = 0; piece < 15; piece++) {
            x.accept(piece);
            x.royalty(piece, 999);
        }
        x.kill(17);
        x.advance(2, 777);
        x.sell(4, 2, 90);
        x.set(2, 1000);
        x.withdraw(0, 3);
        Due.answer("digest of much", x.digest(), digestOf(x, ""));
        Due.answer("digest again", x.digest(), digestOf(x, ""));
        Due.write(x, "11");
        Due.answer("digest with a buffer", x.digest(), digestOf(x, "11"));
        Due.answer("another order of digits", x.clearBuffer(), 2);
    }

    /** Which piece is the best here hangs on the amount: it is another one for 99 and for 101. */
    private static void digestOfTheAmount() {
        PenGuild x = Due.guild(2);
        x.set(0, 0);
        x.set(1, 1);
        x.set(2, 99);
        x.accept(Due.shared(x, 1, 100, "0"));
        x.accept(Due.shared(x, 0, 100, "0"));
        Due.answer("for 99", x.bestPiece(0, 99), 0);
        Due.answer("for 100", x.bestPiece(0, 100), 1);
        Due.answer("digest", x.digest(), digestOf(x, ""));
        x = Due.guild(2);
        x.set(0, 0);
        x.set(1, 0);
        x.set(2, 100);
        x.accept(Due.shared(x, 0, 100, "0"));
        x.accept(Due.shared(x, 0, 100, "0"));
        x.set(2, 101);
        x.royalty(0, 1);
        Due.answer("for 100", x.bestPiece(0, 100), 0);
        Due.answer("for 101", x.bestPiece(0, 101), 1);
        Due.answer("digest", x.digest(), digestOf(x, ""));
    }

    /** The digest as the document puts it together from the other calls. */
    private static long digestOf(PenGuild x, String buffer) {
        long hash = 2281;
        for (int what = 0; what <= 13; what++) {
            hash = 31 * hash + x.count(what);
        }
        for (int setting = 0; setting <= 5; setting++) {
            hash = 31 * hash + x.setting(setting);
        }
        for (int pen = 0; pen < x.count(0); pen++) {
            for (int what = 0; what <= 8; what++) {
                hash = 31 * hash + x.pen(pen, what);
            }
            hash = 31 * hash + x.bestPiece(pen, 100);
        }
        for (int piece = 0; piece < x.count(1); piece++) {
            for (int what = 0; what <= 9; what++) {
                hash = 31 * hash + x.piece(piece, what);
            }
            for (int pen = 0; pen < x.count(0); pen++) {
                for (int what = 0; what <= 2; what++) {
                    hash = 31 * hash + x.between(piece, pen, what);
                }
                hash = 31 * hash + x.fairest(piece, pen);
            }
        }
        hash = 31 * hash + Double.doubleToLongBits(x.spread());
        hash = 31 * hash + buffer.length();
        for (int i = 0; i < buffer.length(); i++) {
            hash = 31 * hash + buffer.charAt(i);
        }
        return hash;
    }
}
