/** The sentences of promises 9 to 16. */
final class EdgesOfPieces {
    static void run() {
        order();
        orderRefused();
        draft();
        draftRefused();
        revise();
        reviseRefused();
        share();
        shareRefused();
        accept();
        acceptRefused();
        kill();
        killRefused();
        royalty();
        royaltyRefused();
        dispute();
        disputeRefused();
    }

    /** 20 pieces of pen 0 for 100: piece 18 is accepted, piece 19 killed, the others are ordered. */
    private static PenGuild twenty(int pens) {
        PenGuild x = Due.guild(pens);
        for (int piece = 0; piece < 20; piece++) {
            x.order(0, 100);
        }
        x.draft(18, 0);
        x.accept(18);
        x.kill(19);
        return x;
    }

    private static void order() {
        Sentences.says(9, "Orders a piece. Undoable.");
        PenGuild x = Due.guild(3);
        Due.undoable(x, "order", () -> x.order(2, 777), 0);
        Due.piece(x, 0, 2, 777, 0, 1, 0, 1, 1, 0, 77, 0);
        Due.between(x, 0, 0, 0, 0, 1);
        Due.between(x, 0, 1, 0, 0, 0);
        Due.between(x, 0, 2, 0, 0, 0);
        Sentences.says(9, "`byline`: the number of its byline");
        Due.numbers(x, "order", byline -> x.order(byline, 10) + x.undo(), 3);
        Sentences.says(9, "`fee`: 10 to 100000");
        Due.range(x, "order", fee -> x.order(0, fee) + x.undo(), 10, 100000);
        Due.piece(x, x.order(0, 10), 0, 10);
        Due.piece(x, x.order(0, 100000), 0, 100000);
        Sentences.says(9, "Returns its number.");
        Due.answer("the first", Due.guild(1).order(0, 10), 0);
        PenGuild y = twenty(1);
        y.undo();
        y.undo();
        y.undo();
        y.undo();
        Due.answer("the last", y.order(0, 10), 19);
    }

    private static void orderRefused() {
        PenGuild x = Due.guild(2);
        Sentences.says(9, "Throws `IndexOutOfBoundsException` if there is no such byline");
        Due.refused(x, Due.INDEX, "order(2, 10)", () -> x.order(2, 10));
        Due.refused(x, Due.INDEX, "order(-1, 10)", () -> x.order(-1, 10));
        Sentences.says(9, "Throws `IllegalArgumentException` if fee is out of range");
        Due.refused(x, Due.ARGUMENT, "order(0, 9)", () -> x.order(0, 9));
        Due.refused(x, Due.ARGUMENT, "order(0, 0)", () -> x.order(0, 0));
        Due.refused(x, Due.ARGUMENT, "order(0, 100001)", () -> x.order(0, 100001));
        Sentences.says(9, "Throws `IllegalStateException` if there are 20 pieces");
        PenGuild y = twenty(1);
        Due.refused(y, Due.STATE, "the 21st", () -> y.order(0, 10));
        PenGuild z = Due.guild(1);
        for (int piece = 0; piece < 19; piece++) {
            z.order(0, 10);
        }
        Due.answer("the 20th", z.order(0, 10), 19);
        Due.refused(z, Due.STATE, "the 21st", () -> z.order(0, 10));
        z.undo();
        Due.answer("the 20th again", z.order(0, 10), 19);
    }

    private static void draft() {
        Sentences.says(10, "A pen writes a draft of a piece. Undoable.");
        PenGuild x = twenty(3);
        Due.undoable(x, "draft", () -> x.draft(17, 2), 1);
        Due.between(x, 17, 1, 0, 0, 1);
        Due.between(x, 16, 1, 0, 0, 0);
        Due.answer("drafts of the pen", x.pen(2, 7), 1);
        Sentences.says(10, "Returns the stage of the piece then.");
        Due.answer("the first", x.draft(0, 0), 1);
        Due.answer("the second", x.draft(0, 1), 2);
        for (int draft = 3; draft < 9; draft++) {
            x.draft(0, 1);
        }
        Due.answer("the 9th", x.draft(0, 2), 2);
        Sentences.says(10, "`piece`: its number");
        PenGuild y = Due.guild(3);
        y.order(0, 10);
        y.order(1, 10);
        Due.numbers(y, "draft", piece -> y.draft(piece, 0) + y.undo(), 2);
        Sentences.says(10, "`pen`: the number of the pen");
        Due.numbers(y, "draft", pen -> y.draft(1, pen) + y.undo(), 3);
    }

    private static void draftRefused() {
        PenGuild x = twenty(3);
        Sentences.says(10, "Throws `IndexOutOfBoundsException` if there is no such piece or pen");
        Due.refused(x, Due.INDEX, "draft(20, 0)", () -> x.draft(20, 0));
        Due.refused(x, Due.INDEX, "draft(-1, 0)", () -> x.draft(-1, 0));
        Due.refused(x, Due.INDEX, "draft(0, 3)", () -> x.draft(0, 3));
        Due.refused(x, Due.INDEX, "draft(0, -1)", () -> x.draft(0, -1));
        Sentences.says(10, "Throws `IllegalStateException` if it is accepted or killed, or has 9 drafts");
        Due.refused(x, Due.STATE, "an accepted one", () -> x.draft(18, 0));
        Due.refused(x, Due.STATE, "a killed one", () -> x.draft(19, 0));
        for (int draft = 0; draft < 8; draft++) {
            x.draft(1, draft % 3);
        }
        Due.taken("with 8 drafts", () -> x.draft(1, 2));
        Due.refused(x, Due.STATE, "with 9 drafts", () -> x.draft(1, 2));
        x.kill(1);
        Due.refused(x, Due.STATE, "a killed one with 9 drafts", () -> x.draft(1, 2));
    }

    private static void revise() {
        Sentences.says(11, "Revises the fee of a piece; its contract number increases by 1. Undoable.");
        PenGuild x = twenty(1);
        Due.undoable(x, "revise", () -> x.revise(17, 101), 100);
        Due.piece(x, 17, 0, 101, 0, 2, 0, 1, 1, 0, 10, 0);
        Due.piece(x, 16, 0, 100, 0, 1);
        x.draft(17, 0);
        x.draft(17, 0);
        x.revise(17, 101);
        Due.piece(x, 17, 0, 101, 2, 3);
        Sentences.says(11, "Returns the previous fee.");
        Due.answer("revise", x.revise(0, 100000), 100);
        Due.answer("from the greatest", x.revise(0, 10), 100000);
        Due.answer("from the least", x.revise(0, 10), 10);
        Due.answer("the same", x.revise(0, 10), 10);
        Due.answer("contract", x.piece(0, 3), 5);
        Sentences.says(11, "`piece`: its number");
        PenGuild y = Due.guild(1);
        y.order(0, 100);
        y.order(0, 100);
        Due.numbers(y, "revise", piece -> y.revise(piece, 10) + y.undo(), 2);
        Sentences.says(11, "`fee`: 10 to 100000");
        Due.range(y, "revise", fee -> y.revise(0, fee) + y.undo(), 10, 100000);
    }

    private static void reviseRefused() {
        PenGuild x = twenty(1);
        Sentences.says(11, "Throws `IndexOutOfBoundsException` if there is no such piece");
        Due.refused(x, Due.INDEX, "revise(20, 10)", () -> x.revise(20, 10));
        Due.refused(x, Due.INDEX, "revise(-1, 10)", () -> x.revise(-1, 10));
        Sentences.says(11, "Throws `IllegalArgumentException` if fee is out of range");
        Due.refused(x, Due.ARGUMENT, "revise(0, 9)", () -> x.revise(0, 9));
        Due.refused(x, Due.ARGUMENT, "revise(0, -10)", () -> x.revise(0, -10));
        Due.refused(x, Due.ARGUMENT, "revise(0, 100001)", () -> x.revise(0, 100001));
        Sentences.says(11, "Throws `IllegalStateException` if it is accepted or killed");
        Due.refused(x, Due.STATE, "an accepted one", () -> x.revise(18, 100));
        Due.refused(x, Due.STATE, "a killed one", () -> x.revise(19, 100));
        for (int stage = 0; stage < 3; stage++) {
            Due.taken("in stage " + stage, () -> x.revise(0, 100));
            x.draft(0, 0);
        }
    }

    private static void share() {
        Sentences.says(12, "Revises the parts of a piece: those in the buffer take the place of all that there were;"
            + " its contract number increases by 1; clears the buffer. Undoable.");
        PenGuild x = twenty(12);
        Due.write(x, "11,10,9*3,8*9");
        long before = x.digest();
        Due.answer("share", x.share(17), 14);
        Due.between(x, 17, 0, 0, 0, 0, 0, 0, 0, 0, 0, 9, 3, 1, 1);
        Due.piece(x, 17, 0, 100, 0, 2, 0, 4, 14);
        Due.piece(x, 16, 0, 100, 0, 1, 0, 1, 1);
        Due.answer("the buffer is empty", x.clearBuffer(), 0);
        Due.write(x, "11,10,9*3,8*9");
        x.undo();
        // The oldest of 6 saved states was dropped.
        x.set(0, 10);
        Due.answer("undo", x.digest(), before);
        Sentences.says(12, "Returns all its parts then.");
        shares(x, "5", 1);
        shares(x, "0,1", 2);
        shares(x, "0*9,1*9,10*9,11*9", 36);
        shares(x, "0", 1);
        Due.between(x, 0, 0, 1, 0, 0, 0, 0, 0, 0, 0, 0, 0, 0, 0);
        Due.answer("contract", x.piece(0, 3), 5);
        Sentences.says(12, "`piece`: its number");
        PenGuild y = Due.guild(1);
        y.order(0, 10);
        y.order(0, 10);
        Due.write(y, "0");
        Due.numbers(y, "share", piece -> y.share(piece) + y.append('0'), 2);
    }

    private static void shares(PenGuild x, String text, int parts) {
        Due.write(x, text);
        Due.answer("share of " + text, x.share(0), parts);
    }

    private static void shareRefused() {
        PenGuild x = twenty(10);
        Sentences.says(12, "Throws `IndexOutOfBoundsException` if there is no such piece");
        Due.write(x, "0");
        Due.refused(x, Due.INDEX, "share(20)", () -> x.share(20));
        Due.refused(x, Due.INDEX, "share(-1)", () -> x.share(-1));
        Sentences.says(12, "Throws `IllegalStateException` if it is killed");
        Due.refused(x, Due.STATE, "a killed one", () -> x.share(19));
        Due.taken("an accepted one", () -> x.share(18));
        Sentences.says(12, "Throws `IllegalArgumentException` if the buffer is not a complete list of parts, or a pen"
            + " in it does not exist");
        String[] refused = {"", "0,", "0*", "0,1,", "0x", "0,1,2,3,4", "10", "11", "10*2", "11,0", "0,10", "0,1,11",
            "0,1,2,10", "0,1,2,11*9", "1,1"};
        for (String text : refused) {
            Due.write(x, text);
            Due.refused(x, Due.ARGUMENT, "share of " + text, () -> x.share(0));
            Due.answer("the buffer stays", x.clearBuffer(), text.length());
        }
        shares(x, "9", 1);
        x.addPen();
        shares(x, "0,1,2,10", 4);
        Due.write(x, "11");
        Due.refused(x, Due.ARGUMENT, "share of 11 of 11", () -> x.share(0));
        x.addPen();
        Due.answer("share of 11 of 12", x.share(0), 1);
    }

    private static void accept() {
        Sentences.says(13, "Accepts a piece: its fee comes in. Undoable.");
        PenGuild x = Due.rich(2);
        x.order(1, 1999);
        x.draft(2, 0);
        Due.undoable(x, "accept", () -> x.accept(2), 199);
        Due.answer("stage", x.piece(2, 2), 3);
        Due.answer("came in", x.count(4), 600000 + 1999);
        Due.pen(x, 1, 101800, 0, 101800);
        Sentences.says(13, "Returns what of it comes to the reserve by its percent and by what is withheld together.");
        x.set(2, 1);
        x.advance(1, 1000);
        accepts(x, 100, 10 + 45);
        accepts(x, 10, 1 + 5);
        x.set(0, 0);
        accepts(x, 10, 5);
        accepts(x, 11, 6);
        accepts(x, 100000, 1000 - 45 - 5 - 5 - 6);
        accepts(x, 100000, 0);
        x.set(0, 30);
        accepts(x, 100000, 30000);
        Sentences.says(13, "`piece`: its number");
        PenGuild y = Due.guild(1);
        y.draft(y.order(0, 10), 0);
        y.draft(y.order(0, 10), 0);
        Due.numbers(y, "accept", piece -> y.accept(piece) + y.undo(), 2);
    }

    private static void accepts(PenGuild x, int fee, int due) {
        int reserve = x.count(3);
        int piece = x.order(1, fee);
        x.draft(piece, 1);
        Due.answer("accept of " + fee, x.accept(piece), due);
        Due.answer("reserve", x.count(3), reserve + due);
    }

    private static void acceptRefused() {
        PenGuild x = twenty(1);
        Sentences.says(13, "Throws `IndexOutOfBoundsException` if there is no such piece");
        Due.refused(x, Due.INDEX, "accept(20)", () -> x.accept(20));
        Due.refused(x, Due.INDEX, "accept(-1)", () -> x.accept(-1));
        Sentences.says(13, "Throws `IllegalStateException` if its stage is not 1 or 2");
        Due.refused(x, Due.STATE, "in stage 0", () -> x.accept(0));
        Due.refused(x, Due.STATE, "in stage 3", () -> x.accept(18));
        Due.refused(x, Due.STATE, "in stage 4", () -> x.accept(19));
        x.draft(0, 0);
        Due.taken("in stage 1", () -> x.accept(0));
        x.draft(1, 0);
        x.draft(1, 0);
        Due.taken("in stage 2", () -> x.accept(1));
    }

    private static void kill() {
        Sentences.says(14, "Kills a piece: its kill fee comes in. Undoable.");
        PenGuild x = Due.rich(2);
        x.order(1, 1999);
        Due.undoable(x, "kill", () -> x.kill(2), 199);
        Due.answer("stage", x.piece(2, 2), 4);
        Due.answer("came in", x.count(4), 600000 + 199);
        Due.pen(x, 1, 100180, 0, 100180);
        Due.answer("reserve", x.count(3), 150019);
        Sentences.says(14, "Returns the kill fee.");
        x.advance(1, 1000);
        Due.answer("in stage 0, of a pen that owes", x.kill(x.order(1, 10)), 1);
        x.draft(x.order(1, 10), 0);
        Due.answer("in stage 1", x.kill(4), 2);
        Due.drafts(x, x.order(1, 11), 0, 0, 0);
        Due.answer("in stage 2", x.kill(5), 5);
        x.set(3, 0);
        Due.answer("of 0 percent", x.kill(x.order(1, 100000)), 0);
        x.set(3, 100);
        Due.answer("of 100 percent", x.kill(x.order(1, 100000)), 100000);
        Sentences.says(14, "`piece`: its number");
        PenGuild y = Due.guild(1);
        y.order(0, 10);
        y.order(0, 10);
        Due.numbers(y, "kill", piece -> y.kill(piece) + y.undo(), 2);
    }

    private static void killRefused() {
        PenGuild x = twenty(1);
        Sentences.says(14, "Throws `IndexOutOfBoundsException` if there is no such piece");
        Due.refused(x, Due.INDEX, "kill(20)", () -> x.kill(20));
        Due.refused(x, Due.INDEX, "kill(-1)", () -> x.kill(-1));
        Sentences.says(14, "Throws `IllegalStateException` if it is accepted or killed");
        Due.refused(x, Due.STATE, "an accepted one", () -> x.kill(18));
        Due.refused(x, Due.STATE, "a killed one", () -> x.kill(19));
        x.draft(1, 0);
        Due.drafts(x, 2, 0, 0);
        for (int stage = 0; stage < 3; stage++) {
            int piece = stage;
            Due.taken("in stage " + stage, () -> x.kill(piece));
            Due.refused(x, Due.STATE, "killed in stage " + stage, () -> x.kill(piece));
        }
    }

    private static void royalty() {
        Sentences.says(15, "Royalties come in for a piece. Undoable.");
        PenGuild x = Due.rich(2);
        x.set(2, 500);
        x.advance(1, 100);
        Due.undoable(x, "royalty", () -> x.royalty(1, 1000), 100 + 350 + 25 + 75);
        Due.answer("royalties", x.piece(1, 7), 1000);
        Due.answer("came in", x.count(4), 601000);
        Due.answer("reserve", x.count(3), 150000 - 100 + 550);
        Due.pen(x, 1, 100100 + 450, 0, 100550);
        Sentences.says(15, "Returns what of it comes to the reserve in all.");
        Due.answer("by its percent and by the cap", x.royalty(1, 1000), 100 + 850);
        Due.answer("the least, by the cap", x.royalty(1, 1), 1);
        x.set(2, 0);
        Due.answer("the least, without a cap", x.royalty(1, 1), 0);
        x.advance(1, 2);
        Due.answer("the least, withheld", x.royalty(1, 1), 1);
        Due.answer("the greatest", x.royalty(1, 100000), 10000 + 1);
        Sentences.says(15, "`piece`: its number");
        PenGuild y = Due.rich(2);
        Due.numbers(y, "royalty", piece -> y.royalty(piece, 1) + y.undo(), 2);
        Sentences.says(15, "`amount`: 1 to 100000");
        Due.range(y, "royalty", amount -> y.royalty(1, amount) + y.undo(), 1, 100000);
    }

    private static void royaltyRefused() {
        PenGuild x = twenty(1);
        Sentences.says(15, "Throws `IndexOutOfBoundsException` if there is no such piece");
        Due.refused(x, Due.INDEX, "royalty(20, 1)", () -> x.royalty(20, 1));
        Due.refused(x, Due.INDEX, "royalty(-1, 1)", () -> x.royalty(-1, 1));
        Sentences.says(15, "Throws `IllegalArgumentException` if amount is out of range");
        Due.refused(x, Due.ARGUMENT, "royalty(18, 0)", () -> x.royalty(18, 0));
        Due.refused(x, Due.ARGUMENT, "royalty(18, -1)", () -> x.royalty(18, -1));
        Due.refused(x, Due.ARGUMENT, "royalty(18, 100001)", () -> x.royalty(18, 100001));
        Sentences.says(15, "Throws `IllegalStateException` if it is not accepted");
        for (int stage = 0; stage < 3; stage++) {
            Due.refused(x, Due.STATE, "in stage " + stage, () -> x.royalty(0, 1));
            x.draft(0, 0);
        }
        Due.refused(x, Due.STATE, "a killed one", () -> x.royalty(19, 1));
        x.accept(0);
        Due.taken("an accepted one", () -> x.royalty(0, 1));
    }

    private static void dispute() {
        Sentences.says(16, "A pen disputes the parts of a piece; the contract number of the piece increases by 1."
            + " Undoable.");
        PenGuild x = twenty(5);
        Due.drafts(x, 17, 4, 4, 1);
        Due.undoable(x, "dispute", () -> x.dispute(17, 1), 1);
        Due.between(x, 17, 0, 0, 1, 0, 0, 2);
        Due.piece(x, 17, 0, 100, 2, 2, 3, 2, 3);
        Due.piece(x, 16, 0, 100, 0, 1, 0, 1, 1);
        Due.answer("disputes", x.count(10), 1);
        Sentences.says(16, "Returns the parts that it has then (0 if it has none).");
        Due.drafts(x, 0, 4, 3, 2, 1, 0, 4);
        Due.answer("of one left out", x.dispute(0, 3), 0);
        Due.answer("of one left out again", x.dispute(0, 3), 0);
        Due.drafts(x, 1, 4, 4, 4, 4, 4, 4, 4, 4, 4);
        Due.answer("all 9", x.dispute(1, 4), 9);
        Due.answer("disputes", x.count(10), 4);
        Due.answer("contract", x.piece(0, 3), 3);
        Sentences.says(16, "`piece`: its number");
        PenGuild y = Due.guild(3);
        Due.drafts(y, y.order(0, 10), 1, 2, 2);
        Due.drafts(y, y.order(0, 10), 1, 2, 2);
        Due.numbers(y, "dispute", piece -> y.dispute(piece, 1) + y.undo(), 2);
        Sentences.says(16, "`pen`: the number of the pen");
        Due.write(y, "1");
        y.order(1, 10);
        Due.drafts(y, 2, 0, 2);
        Due.numbers(y, "dispute", pen -> y.dispute(2, pen) + y.undo(), 3);
    }

    private static void disputeRefused() {
        PenGuild x = twenty(3);
        Due.drafts(x, 0, 0, 1);
        Sentences.says(16, "Throws `IndexOutOfBoundsException` if there is no such piece or pen");
        Due.refused(x, Due.INDEX, "dispute(20, 1)", () -> x.dispute(20, 1));
        Due.refused(x, Due.INDEX, "dispute(-1, 1)", () -> x.dispute(-1, 1));
        Due.refused(x, Due.INDEX, "dispute(0, 3)", () -> x.dispute(0, 3));
        Due.refused(x, Due.INDEX, "dispute(0, -1)", () -> x.dispute(0, -1));
        Sentences.says(16, "Throws `IllegalStateException` if it cannot dispute them");
        Due.refused(x, Due.STATE, "by one with more parts", () -> x.dispute(0, 0));
        Due.refused(x, Due.STATE, "by one without drafts and parts", () -> x.dispute(0, 2));
        Due.refused(x, Due.STATE, "without drafts", () -> x.dispute(1, 1));
        Due.taken("by one with less", () -> x.dispute(0, 1));
        Due.refused(x, Due.STATE, "by one with as many", () -> x.dispute(0, 1));
        Due.drafts(x, 2, 1);
        x.kill(2);
        Due.refused(x, Due.STATE, "of a killed one", () -> x.dispute(2, 1));
        x.undo();
        Due.taken("of one that is not killed", () -> x.dispute(2, 1));
    }

    private EdgesOfPieces() {
    }
}
