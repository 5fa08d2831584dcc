/** The sentences of promises 26 to 30. */
final class EdgesOfWouldBe {
    interface Maker {
        PenGuild make();
    }

    static void run() {
        ifPaid();
        ifPaidOfOwers();
        ifPaidRanges();
        ifPaidRefused();
        fairest();
        fairestRefused();
        bestPiece();
        bestPieceRefused();
        spread();
        spreadOfOneWhoHasAll();
        digest();
    }

    private static void ifPaid() {
        Sentences.says(26, "Tells what royalties would bring for a pen.");
        PenGuild x = Due.rich(4);
        x.set(0, 0);
        x.set(2, 200);
        x.sell(1, 2, 0);
        Due.write(x, "0,1");
        x.share(1);
        long digest = x.digest();
        Due.answer("by parts", x.ifPaid(1, 100, 0), 48);
        Due.answer("by parts", x.ifPaid(1, 100, 1), 47);
        Due.answer("by the byline", x.ifPaid(1, 100, 2), 5);
        Due.answer("nothing", x.ifPaid(1, 100, 3), 0);
        Due.answer("at most the cap", x.ifPaid(1, 100000, 0), 200);
        Due.answer("the byline's is not capped", x.ifPaid(1, 100000, 2), 5000);
        Due.answer("nothing of the most", x.ifPaid(1, 100000, 3), 0);
        Due.answer("all of the least", x.ifPaid(1, 1, 0), 1);
        Due.answer("nothing of the least", x.ifPaid(1, 1, 1), 0);
        Due.answer("nothing of the least by the byline", x.ifPaid(1, 1, 2), 0);
        Due.answer("nothing is changed", x.digest(), digest);
        x.royalty(1, 100000);
        Due.answer("nothing more than the cap", x.ifPaid(1, 100, 0), 0);
        Due.answer("of one of which it got more ahead of the cap", x.ifPaid(0, 100, 0), 5);
        x.nextYear();
        Due.answer("in another year", x.ifPaid(1, 100, 0), 48);
    }

    private static void ifPaidOfOwers() {
        Sentences.says(26, "Returns by how much its balance would increase.");
        for (int owed = 0; owed <= 60; owed++) {
            PenGuild x = Due.rich(2);
            x.set(0, 0);
            x.set(1, 20);
            if (owed > 0) {
                x.advance(1, owed);
            }
            for (int amount : new int[] {1, 2, 5, 6, 9, 10, 11, 49, 59, 60, 61, 99, 100000}) {
                int told = x.ifPaid(1, amount, 1);
                int balance = x.pen(1, 0);
                x.royalty(1, amount);
                Due.answer("of " + amount + ", owing " + owed, told, x.pen(1, 0) - balance);
                x.undo();
            }
            Due.answer("of 9 (1 and 8), owing " + owed, x.ifPaid(1, 9, 1), 9 - (owed > 5 ? 5 : owed));
            Due.answer("of 1, owing " + owed, x.ifPaid(1, 1, 1), owed == 0 ? 1 : 0);
        }
    }

    private static void ifPaidRanges() {
        PenGuild x = Due.rich(3);
        Sentences.says(26, "`piece`: the number of a piece");
        Due.numbers(x, "ifPaid", piece -> x.ifPaid(piece, 1, 0), 3);
        Sentences.says(26, "`amount`: 1 to 100000");
        Due.range(x, "ifPaid", amount -> x.ifPaid(0, amount, 0), 1, 100000);
        Sentences.says(26, "`pen`: the number of the pen");
        Due.numbers(x, "ifPaid", pen -> x.ifPaid(0, 1, pen), 3);
    }

    private static void ifPaidRefused() {
        PenGuild x = Due.rich(3);
        x.order(0, 10);
        x.kill(x.order(0, 10));
        Sentences.says(26, "Throws `IndexOutOfBoundsException` if there is no such piece or pen");
        Due.refused(x, Due.INDEX, "ifPaid(5, 1, 0)", () -> x.ifPaid(5, 1, 0));
        Due.refused(x, Due.INDEX, "ifPaid(-1, 1, 0)", () -> x.ifPaid(-1, 1, 0));
        Due.refused(x, Due.INDEX, "ifPaid(0, 1, 3)", () -> x.ifPaid(0, 1, 3));
        Due.refused(x, Due.INDEX, "ifPaid(0, 1, -1)", () -> x.ifPaid(0, 1, -1));
        Sentences.says(26, "Throws `IllegalArgumentException` if amount is out of range");
        Due.refused(x, Due.ARGUMENT, "ifPaid(0, 0, 0)", () -> x.ifPaid(0, 0, 0));
        Due.refused(x, Due.ARGUMENT, "ifPaid(0, -1, 0)", () -> x.ifPaid(0, -1, 0));
        Due.refused(x, Due.ARGUMENT, "ifPaid(0, 100001, 0)", () -> x.ifPaid(0, 100001, 0));
        Sentences.says(26, "Throws `IllegalStateException` if the piece is not accepted");
        Due.refused(x, Due.STATE, "a killed one", () -> x.ifPaid(4, 1, 0));
        for (int stage = 0; stage < 3; stage++) {
            Due.refused(x, Due.STATE, "in stage " + stage, () -> x.ifPaid(3, 1, 0));
            x.draft(3, 0);
        }
        x.accept(3);
        Due.answer("an accepted one", x.ifPaid(3, 1, 0), 1);
    }

    private static void fairest() {
        Sentences.says(27, "Finds the fairest parts of a piece: all pens who wrote drafts of it (the same 4 as in a"
            + " dispute, if they are more) have 1 to 4 parts each, so that the greatest of the differences between the"
            + " parts of one of these pens, as a fraction of all of these parts, and its drafts, as a fraction of the"
            + " drafts of these pens, is the least; of several the one with the fewest parts together; of several of"
            + " these the one in which the first of these pens (by numbers) has the fewest parts, then the second, and"
            + " so on.");
        // The drafts of 4 pens each, and their parts.
        fair(9, 0, 0, 0, 1, 0, 0, 0);
        fair(8, 1, 0, 0, 4, 1, 0, 0);
        fair(1, 8, 0, 0, 1, 4, 0, 0);
        fair(7, 1, 0, 0, 4, 1, 0, 0);
        fair(4, 1, 0, 0, 4, 1, 0, 0);
        fair(5, 4, 0, 0, 4, 3, 0, 0);
        fair(2, 2, 0, 0, 1, 1, 0, 0);
        fair(6, 3, 0, 0, 2, 1, 0, 0);
        fair(3, 3, 3, 0, 1, 1, 1, 0);
        fair(2, 2, 5, 0, 1, 1, 3, 0);
        fair(5, 2, 2, 0, 3, 1, 1, 0);
        fair(7, 1, 1, 0, 4, 1, 1, 0);
        fair(0, 2, 1, 5, 0, 2, 1, 4);
        fair(4, 4, 1, 0, 4, 4, 1, 0);
        fair(1, 1, 2, 5, 1, 1, 1, 3);
        fair(5, 2, 1, 1, 3, 1, 1, 1);
        fair(1, 5, 2, 1, 1, 3, 1, 1);
        fair(6, 1, 1, 1, 4, 1, 1, 1);
        fair(3, 2, 2, 2, 3, 2, 2, 2);
        fair(2, 2, 2, 2, 1, 1, 1, 1);
        fairestOfMany();
    }

    /** The drafts of pens 2, 5, 8 and 11, and then their parts. */
    private static void fair(int... draftsAndParts) {
        PenGuild x = Due.guild(12);
        x.order(0, 10);
        for (int i = 3; i >= 0; i--) {
            for (int draft = 0; draft < draftsAndParts[i]; draft++) {
                x.draft(0, 3 * i + 2);
            }
        }
        for (int pen = 0; pen < 12; pen++) {
            int due = pen % 3 == 2 ? draftsAndParts[4 + pen / 3] : 0;
            Due.answer("fairest parts of " + pen, x.fairest(0, pen), due);
        }
    }

    private static void fairestOfMany() {
        PenGuild x = Due.guild(12);
        x.order(0, 10);
        fairest(x, 0, 0, 0, 0, 0, 0, 0, 0, 0, 0, 0, 0, 0);
        x.order(1, 10);
        Due.drafts(x, 1, 11, 10, 9, 8);
        fairest(x, 1, 0, 0, 0, 0, 0, 0, 0, 0, 1, 1, 1, 1);
        Due.drafts(x, 1, 7);
        fairest(x, 1, 0, 0, 0, 0, 0, 0, 0, 1, 1, 1, 1, 0);
        Due.drafts(x, 1, 11, 6, 5, 11);
        fairest(x, 1, 0, 0, 0, 0, 0, 1, 1, 1, 0, 0, 0, 3);
        x.order(1, 10);
        Due.drafts(x, 2, 4, 4, 4, 4, 3, 2, 1, 0);
        fairest(x, 2, 1, 1, 1, 0, 4, 0, 0, 0, 0, 0, 0, 0);
        x.accept(2);
        fairest(x, 2, 1, 1, 1, 0, 4, 0, 0, 0, 0, 0, 0, 0);
        x.kill(1);
        fairest(x, 1, 0, 0, 0, 0, 0, 1, 1, 1, 0, 0, 0, 3);
    }

    private static void fairest(PenGuild x, int piece, int... due) {
        for (int pen = 0; pen < due.length; pen++) {
            Due.answer("fairest(" + piece + ", " + pen + ")", x.fairest(piece, pen), due[pen]);
        }
    }

    private static void fairestRefused() {
        PenGuild x = Due.guild(3);
        x.order(0, 10);
        x.order(0, 10);
        Due.drafts(x, 1, 2, 2, 1);
        Sentences.says(27, "`piece`: its number");
        Due.numbers(x, "fairest", piece -> x.fairest(piece, 0), 2);
        Sentences.says(27, "`pen`: the number of a pen");
        Due.numbers(x, "fairest", pen -> x.fairest(0, pen), 3);
        Sentences.says(27, "Returns the parts of the pen in it, 0 if it has none.");
        long digest = x.digest();
        Due.answer("of a pen with parts, without drafts", x.fairest(1, 0), 0);
        Due.answer("of a pen without parts", x.fairest(1, 2), 2);
        Due.answer("of a piece without drafts", x.fairest(0, 0), 0);
        Due.answer("nothing is changed", x.digest(), digest);
        Sentences.says(27, "Throws `IndexOutOfBoundsException` if there is no such piece or pen");
        Due.refused(x, Due.INDEX, "fairest(2, 0)", () -> x.fairest(2, 0));
        Due.refused(x, Due.INDEX, "fairest(-1, 0)", () -> x.fairest(-1, 0));
        Due.refused(x, Due.INDEX, "fairest(0, 3)", () -> x.fairest(0, 3));
        Due.refused(x, Due.INDEX, "fairest(0, -1)", () -> x.fairest(0, -1));
    }

    private static void bestPiece() {
        Sentences.says(28, "Finds the piece that would bring a pen the most.");
        bestByOneMore();
        PenGuild x = Due.guild(3);
        for (int piece = 0; piece < 20; piece++) {
            x.order(0, 10);
            x.draft(piece, 1);
        }
        Sentences.says(28, "Returns of the accepted pieces the one for which ifPaid() is the greatest, of several the"
            + " one with the lowest number; NONE if no piece is accepted.");
        Due.answer("no piece is accepted", x.bestPiece(0, 100), PenGuild.NONE);
        x.kill(3);
        Due.answer("no piece is accepted", x.bestPiece(0, 100), PenGuild.NONE);
        x.accept(19);
        Due.answer("the last one", x.bestPiece(0, 100), 19);
        Due.answer("the only one, for nothing", x.bestPiece(2, 100000), 19);
        x.accept(7);
        Due.answer("the first of two", x.bestPiece(0, 100), 7);
        Due.answer("the first of two, for nothing", x.bestPiece(2, 100), 7);
        x.dispute(7, 1);
        Due.answer("the one that brings more", x.bestPiece(0, 100), 19);
        Due.answer("the one that brings something", x.bestPiece(1, 1), 7);
        x.accept(0);
        Due.answer("the first one", x.bestPiece(0, 100), 0);
        Due.answer("the one that brings something", x.bestPiece(1, 100), 7);
        Due.answer("of those for nothing the first", x.bestPiece(2, 1), 0);
        Due.answer("no piece", Due.guild(1).bestPiece(0, 1), PenGuild.NONE);
    }

    private static void bestByOneMore() {
        PenGuild x = Due.rich(2);
        x.set(0, 0);
        x.set(1, 0);
        Due.write(x, "0*9,1*9");
        x.share(0);
        Due.write(x, "0*8,1*9");
        x.share(1);
        Due.answer("53 of 100, and not 50", x.bestPiece(1, 100), 1);
        Due.answer("1 of 1 by either", x.bestPiece(1, 1), 1);
        Due.answer("1 of 2 by either", x.bestPiece(1, 2), 0);
        Due.answer("50 of 100, and not 47", x.bestPiece(0, 100), 0);
        x.advance(1, 1);
        Due.answer("what is withheld", x.bestPiece(1, 1), 0);
        x.undo();
        x.set(2, 50);
        Due.answer("with a cap of 50", x.bestPiece(1, 100), 0);
        x.set(2, 51);
        Due.answer("with a cap of 51", x.bestPiece(1, 100), 1);
    }

    private static void bestPieceRefused() {
        PenGuild x = Due.rich(3);
        Sentences.says(28, "`pen`: its number");
        Due.numbers(x, "bestPiece", pen -> x.bestPiece(pen, 1), 3);
        Sentences.says(28, "`amount`: 1 to 100000");
        Due.range(x, "bestPiece", amount -> x.bestPiece(0, amount), 1, 100000);
        Sentences.says(28, "Throws `IndexOutOfBoundsException` if there is no such pen");
        Due.refused(x, Due.INDEX, "bestPiece(3, 1)", () -> x.bestPiece(3, 1));
        Due.refused(x, Due.INDEX, "bestPiece(-1, 1)", () -> x.bestPiece(-1, 1));
        Sentences.says(28, "Throws `IllegalArgumentException` if amount is out of range");
        PenGuild y = Due.guild(1);
        for (int amount : new int[] {0, -1, 100001}) {
            Due.refused(x, Due.ARGUMENT, "bestPiece(0, " + amount + ")", () -> x.bestPiece(0, amount));
            Due.refused(y, Due.ARGUMENT, "without pieces", () -> y.bestPiece(0, amount));
        }
    }

    private static void spread() {
        Sentences.says(29, "Returns how unequal the balances are.");
        PenGuild x = Due.rich(2);
        Due.answer("350000 and 100000", x.spread(), 250000.0 / 900000.0);
        Due.answer("again", x.spread(), 250000.0 / 900000.0);
        Sentences.says(29, "Returns the differences (never below 0) of the balances of all pairs of pens, added (as an"
            + " int), as a double, divided by the number of pens times count(5); 0.0 if count(5) is 0.");
        Due.answer("without pens", new PenGuild().spread(), 0.0);
        Due.answer("without balances", Due.guild(12).spread(), 0.0);
        PenGuild one = Due.guild(1);
        Due.answer("one without a balance", one.spread(), 0.0);
        Due.earn(one, 0, 10);
        Due.answer("one pen", one.spread(), 0.0);
        one.withdraw(0, 10);
        Due.answer("one who had something", one.spread(), 0.0);
        PenGuild two = Due.guild(2);
        Due.earn(two, 0, 10);
        Due.answer("10 and 0", two.spread(), 0.5);
        Due.earn(two, 1, 10);
        Due.answer("10 and 10", two.spread(), 0.0);
        Due.earn(two, 1, 11);
        Due.answer("10 and 21", two.spread(), 11.0 / 62.0);
        two.withdraw(0, 9);
        Due.answer("1 and 21", two.spread(), 20.0 / 44.0);
        PenGuild three = Due.guild(3);
        Due.earn(three, 1, 100);
        Due.earn(three, 2, 50);
        Due.answer("0, 100 and 50", three.spread(), 200.0 / 450.0);
    }

    private static void spreadOfOneWhoHasAll() {
        for (int pens = 2; pens <= 12; pens++) {
            PenGuild x = Due.guild(pens);
            Due.earn(x, pens - 1, 10);
            Due.answer("one of " + pens + " has all", x.spread(), (pens - 1) * 10 / (double) (pens * 10));
        }
        PenGuild x = Due.rich(12);
        x.set(0, 0);
        int balance = 350000;
        for (int i = 0; i < 350; i++) {
            x.royalty(0, 100000);
            balance += 100000;
        }
        double differences = 11.0 * (balance - 100000);
        Due.answer("much", x.spread(), differences / (12.0 * (balance + 1100000.0)));
    }

    private static void digest() {
        Sentences.says(30, "Computes a hash of the whole state. The hash starts at 2281. For each value v of the"
            + " following list, in order, the hash becomes 31 * hash + v, in long arithmetic with overflow. The values"
            + " are: count(0) to count(13); the settings 0 to 5; for each pen its properties 0 to 8, and bestPiece with"
            + " the amount 100; for each piece its properties 0 to 9, and for each pen between with 0 to 2 and fairest;"
            + " the bits of spread (as Double.doubleToLongBits); the length of the buffer and each of its character"
            + " codes.");
        digests(() -> new PenGuild(), "");
        digests(() -> Due.guild(1), "");
        digests(() -> Due.guild(12), "~");
        digests(() -> Due.rich(2), "!".repeat(60));
        digests(() -> EdgesOfUndo.busy(), "3,1*2");
        digests(() -> fullOfPieces(), "0,11*9");
        digests(() -> fullOfMoney(), "11");
        Due.answer("the best piece for 99", bestForLess().bestPiece(0, 99), 0);
        Due.answer("another one for 100", bestForLess().bestPiece(0, 100), 1);
        digests(() -> bestForLess(), "");
        Due.answer("the best piece for 100", bestForMore().bestPiece(0, 100), 0);
        Due.answer("another one for 101", bestForMore().bestPiece(0, 101), 1);
        digests(() -> bestForMore(), "");
        digestsOfSpreads();
        Sentences.says(30, "Returns the hash.");
        PenGuild x = Due.rich(12);
        long digest = x.digest();
        Due.answer("again", x.digest(), digest);
        Due.answer("of a twin", Due.rich(12).digest(), digest);
        x.nextYear();
        Due.answer("of another year", x.digest() == digest ? 1 : 0, 0);
    }

    /** Spreads at and beside halves of halves, very small and great ones: each other bits. */
    private static void digestsOfSpreads() {
        digestOfSpread(20.0 / 80.0, 30, 10);
        digestOfSpread(240.0 / 1000.0, 370, 130);
        digestOfSpread(260.0 / 1000.0, 380, 120);
        digestOfSpread(1.0 / 399998.0, 100000, 99999);
        digestOfSpread(99990.0 / 200020.0, 100000, 10);
        digestOfSpread(199980.0 / 300060.0, 10, 100000, 10);
        digestOfSpread(180.0 / 360.0, 30, 90, 0);
        for (int other = 10; other < 1000; other += 7) {
            digestOfSpread((1000 - other) / (2.0 * (1000 + other)), 1000, other);
        }
    }

    private static void digestOfSpread(double due, int... balances) {
        Maker maker = () -> {
            PenGuild x = Due.guild(balances.length);
            for (int pen = 0; pen < balances.length; pen++) {
                if (balances[pen] > 0) {
                    Due.earn(x, pen, balances[pen]);
                }
            }
            return x;
        };
        Due.answer("spread", maker.make().spread(), due);
        digests(maker, "");
    }

    private static PenGuild fullOfMoney() {
        PenGuild x = Due.rich(12);
        for (int i = 0; i < 230; i++) {
            x.royalty(11, 99999);
        }
        return x;
    }

    /** By the cap and the byline percent, pen 0 gets of 100 more of piece 1, of less as much of either piece. */
    private static PenGuild bestForLess() {
        PenGuild x = Due.guild(2);
        x.set(0, 0);
        x.set(1, 1);
        x.set(2, 99);
        x.accept(Due.shared(x, 1, 10, "0"));
        x.accept(Due.shared(x, 0, 10, "0"));
        return x;
    }

    /** By the cap pen 0 gets at most 100 more of piece 0, and 101 of piece 1. */
    private static PenGuild bestForMore() {
        PenGuild x = Due.guild(2);
        x.set(0, 0);
        x.set(1, 0);
        x.set(2, 101);
        x.accept(Due.shared(x, 0, 10, "0"));
        x.accept(Due.shared(x, 0, 10, "0"));
        x.royalty(0, 1);
        return x;
    }

    private static PenGuild fullOfPieces() {
        PenGuild x = Due.rich(12);
        for (int piece = 12; piece < 20; piece++) {
            x.order(piece - 12, 100 * piece);
            Due.drafts(x, piece, piece % 7, piece % 5, 11, 3, 3, piece % 3);
        }
        x.dispute(12, 11);
        x.accept(13);
        x.royalty(13, 99);
        x.kill(14);
        x.advance(4, 17);
        x.sell(5, 6, 300);
        x.withdraw(7, 1);
        return x;
    }

    /** The digest of what is made, with this buffer; its parts are asked of twins, for the sake of 512 calls. */
    private static void digests(Maker maker, String buffer) {
        PenGuild x = twin(maker, buffer);
        long hash = 2281;
        for (int what = 0; what <= 13; what++) {
            hash = 31 * hash + x.count(what);
        }
        for (int setting = 0; setting <= 5; setting++) {
            hash = 31 * hash + x.setting(setting);
        }
        int pens = x.count(0);
        int pieces = x.count(1);
        for (int pen = 0; pen < pens; pen++) {
            for (int what = 0; what <= 8; what++) {
                hash = 31 * hash + x.pen(pen, what);
            }
            hash = 31 * hash + x.bestPiece(pen, 100);
        }
        for (int piece = 0; piece < pieces; piece++) {
            hash = withPiece(hash, twin(maker, buffer), piece, pens);
        }
        PenGuild y = twin(maker, buffer);
        hash = 31 * hash + Double.doubleToLongBits(y.spread());
        hash = 31 * hash + buffer.length();
        for (char c : buffer.toCharArray()) {
            hash = 31 * hash + c;
        }
        Due.answer("digest", y.digest(), hash);
    }

    private static long withPiece(long before, PenGuild x, int piece, int pens) {
        long hash = before;
        for (int what = 0; what <= 9; what++) {
            hash = 31 * hash + x.piece(piece, what);
        }
        for (int pen = 0; pen < pens; pen++) {
            for (int what = 0; what <= 2; what++) {
                hash = 31 * hash + x.between(piece, pen, what);
            }
            hash = 31 * hash + x.fairest(piece, pen);
        }
        return hash;
    }

    private static PenGuild twin(Maker maker, String buffer) {
        PenGuild x = maker.make();
        Due.write(x, buffer);
        return x;
    }

    private EdgesOfWouldBe() {
    }
}
