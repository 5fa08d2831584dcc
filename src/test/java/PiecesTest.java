/** Promises 9 to 12 and 16: pieces, drafts, contracts, shares and disputes. */
public final class PiecesTest {
    public static void main(String[] args) {
        order();
        orderRefused();
        draft();
        draftRefused();
        revise();
        share();
        shareRefused();
        dispute();
        disputeOfMoreThanFour();
        disputeBesideOthers();
        disputeRefused();
        Due.end();
    }

    private static void order() {
        PenGuild x = Due.guild(3);
        Due.earn(x, 2, 100);
        x.sell(1, 2, 100);
        Due.undoable(x, "order(1, 109)", () -> x.order(1, 109), 1);
        Due.piece(x, 1, 1, 109, 0, 1, 0, 1, 1, 0, 10, 0);
        Due.between(x, 1, 0, 0, 1, 0);
        Due.between(x, 1, 1, 0, 0, 0);
        Due.between(x, 1, 2, 0, 0, 0);
        Due.answer("the least fee", x.order(0, 10), 2);
        Due.answer("the greatest fee", x.order(2, 100000), 3);
        Due.piece(x, 3, 2, 100000, 0, 1, 0, 1, 1, 0, 10000, 0);
        Due.answer("pieces", x.count(1), 4);
        Due.answer("nothing came in", x.count(4), 100);
    }

    private static void orderRefused() {
        PenGuild x = Due.guild(2);
        Due.refused(x, Due.INDEX, "order(2, 10)", () -> x.order(2, 10));
        Due.refused(x, Due.INDEX, "order(-1, 9)", () -> x.order(-1, 9));
        Due.refused(x, Due.ARGUMENT, "order(0, 9)", () -> x.order(0, 9));
        Due.refused(x, Due.ARGUMENT, "order(0, -10)", () -> x.order(0, -10));
        Due.refused(x, Due.ARGUMENT, "order(0, 100001)", () -> x.order(0, 100001));
        for (int piece = 0; piece < 20; piece++) {
            Due.answer("order", x.order(piece % 2, 10 + piece), piece);
        }
        Due.refused(x, Due.STATE, "the 21st piece", () -> x.order(0, 10));
        Due.refused(x, Due.ARGUMENT, "the 21st piece for 9", () -> x.order(0, 9));
        Due.refused(x, Due.INDEX, "the 21st piece of no byline", () -> x.order(2, 10));
        x.undo();
        Due.answer("order after undo", x.order(1, 50), 19);
    }

    private static void draft() {
        PenGuild x = Due.guild(3);
        x.order(0, 100);
        x.order(0, 100);
        Due.undoable(x, "the first draft", () -> x.draft(0, 2), 1);
        Due.undoable(x, "the second draft", () -> x.draft(0, 2), 2);
        Due.undoable(x, "the third draft", () -> x.draft(0, 1), 2);
        Due.between(x, 0, 1, 0, 1, 2);
        Due.between(x, 1, 1, 0, 0, 0);
        Due.between(x, 0, 0, 1, 0, 0);
        Due.answer("drafts", x.piece(0, 4), 3);
        Due.answer("stage of another", x.piece(1, 2), 0);
        x.draft(1, 2);
        Due.answer("drafts of the pen", x.pen(2, 7), 3);
        x.undo();
        Due.answer("the first draft again", x.draft(1, 0), 1);
    }

    private static void draftRefused() {
        PenGuild x = Due.guild(2);
        x.order(0, 100);
        x.order(0, 100);
        x.order(0, 100);
        Due.refused(x, Due.INDEX, "draft(3, 0)", () -> x.draft(3, 0));
        Due.refused(x, Due.INDEX, "draft(-1, 0)", () -> x.draft(-1, 0));
        Due.refused(x, Due.INDEX, "draft(0, 2)", () -> x.draft(0, 2));
        Due.refused(x, Due.INDEX, "draft(0, -1)", () -> x.draft(0, -1));
        for (int i = 0; i < 9; i++) {
            Due.answer("draft", x.draft(0, i % 2), i == 0 ? 1 : 2);
        }
        Due.refused(x, Due.STATE, "the 10th draft", () -> x.draft(0, 1));
        x.draft(1, 0);
        x.accept(1);
        x.kill(2);
        Due.refused(x, Due.STATE, "draft of an accepted one", () -> x.draft(1, 0));
        Due.refused(x, Due.STATE, "draft of a killed one", () -> x.draft(2, 0));
        Due.refused(x, Due.INDEX, "draft of a killed one by nobody", () -> x.draft(2, 2));
    }

    private static void revise() {
        PenGuild x = Due.guild(1);
        x.order(0, 100);
        Due.undoable(x, "revise", () -> x.revise(0, 200), 100);
        Due.piece(x, 0, 0, 200, 0, 2, 0, 1, 1, 0, 20);
        Due.answer("the least fee", x.revise(0, 10), 200);
        Due.answer("the greatest fee", x.revise(0, 100000), 10);
        Due.answer("the same fee", x.revise(0, 100000), 100000);
        Due.answer("contract", x.piece(0, 3), 5);
        Due.answer("a draft after it is the first", x.draft(0, 0), 1);
        x.revise(0, 50);
        Due.answer("it is no draft", x.piece(0, 2), 1);
        Due.refused(x, Due.INDEX, "revise(1, 10)", () -> x.revise(1, 10));
        Due.refused(x, Due.INDEX, "revise(-1, 9)", () -> x.revise(-1, 9));
        Due.refused(x, Due.ARGUMENT, "revise(0, 9)", () -> x.revise(0, 9));
        Due.refused(x, Due.ARGUMENT, "revise(0, 100001)", () -> x.revise(0, 100001));
        x.accept(0);
        Due.refused(x, Due.STATE, "an accepted one", () -> x.revise(0, 10));
        Due.refused(x, Due.ARGUMENT, "an accepted one for 9", () -> x.revise(0, 9));
        x.kill(x.order(0, 100));
        Due.refused(x, Due.STATE, "a killed one", () -> x.revise(1, 10));
    }

    private static void share() {
        PenGuild x = Due.guild(12);
        x.order(5, 100);
        Due.write(x, "11*9,10,0*2,1");
        Due.answer("share", x.share(0), 13);
        Due.between(x, 0, 0, 2, 1, 0, 0, 0, 0, 0, 0, 0, 0, 1, 9);
        Due.piece(x, 0, 5, 100, 0, 2, 0, 4, 13);
        Due.answer("the buffer is cleared", x.clearBuffer(), 0);
        Due.answer("undo", x.undo(), x.count(13));
        Due.between(x, 0, 0, 0, 0, 0, 0, 0, 1, 0, 0, 0, 0, 0, 0);
        Due.answer("undo does not bring the buffer back", x.clearBuffer(), 0);
        Due.answer("contract", x.piece(0, 3), 1);
        Due.write(x, "1");
        Due.answer("a pen alone", x.share(0), 1);
        Due.write(x, "1,10,11");
        Due.answer("1, 10 and 11", x.share(0), 3);
        Due.write(x, "11,10,1*2");
        Due.answer("11, 10 and 1", x.share(0), 4);
        Due.write(x, "5*9,6*9,7*9,8*9");
        Due.answer("the most", x.share(0), 36);
        Due.between(x, 0, 0, 0, 0, 0, 0, 0, 9, 9, 9, 9, 0, 0, 0);
        x.draft(0, 5);
        x.accept(0);
        Due.write(x, "3*4");
        Due.answer("of an accepted one", x.share(0), 4);
        Due.piece(x, 0, 5, 100, 3, 6, 1, 1, 4);
    }

    private static void shareRefused() {
        PenGuild x = Due.guild(10);
        x.order(0, 100);
        x.kill(x.order(0, 100));
        String[] noLists = {"", ",", "0,", "0*", "*2", "0*1", "0*0", "00", "01", "12", "1,1", "0,0", "0,1,0",
            "0,1,2,3,", "0,1,2,3,4", "0,,1", "0*2*2", "0*10", "0*2,", "!0", "a", "0;1", "1,2,1*2", "10*", "0+1",
            "10", "11", "9,10", "0,1,2,11*3", "1,10,1"};
        for (String text : noLists) {
            Due.write(x, text);
            Due.refused(x, Due.ARGUMENT, "share of " + text, () -> x.share(0));
            Due.refused(x, Due.ARGUMENT, "share of a killed one of " + text, () -> x.share(1));
            Due.refused(x, Due.INDEX, "share of no piece of " + text, () -> x.share(2));
            Due.answer("the buffer stays", x.clearBuffer(), text.length());
        }
        Due.write(x, "9*2");
        Due.refused(x, Due.INDEX, "share(2)", () -> x.share(2));
        Due.refused(x, Due.INDEX, "share(-1)", () -> x.share(-1));
        Due.refused(x, Due.STATE, "share of a killed one", () -> x.share(1));
        Due.answer("it stands in the buffer still", x.share(0), 2);
    }

    private static void dispute() {
        PenGuild x = Due.guild(4);
        x.order(0, 1000);
        Due.drafts(x, 0, 1, 2, 1, 0);
        Due.answer("who can", x.piece(0, 9), 2 + 4);
        Due.undoable(x, "dispute", () -> x.dispute(0, 2), 1);
        Due.between(x, 0, 0, 1, 2, 1, 0);
        Due.answer("contract", x.piece(0, 3), 2);
        Due.answer("disputes", x.count(10), 1);
        Due.answer("drafts stay", x.piece(0, 4), 4);
        Due.answer("who can", x.piece(0, 9), 0);
        Due.write(x, "0,1,3*2");
        x.share(0);
        x.accept(0);
        Due.answer("who can", x.piece(0, 9), 2 + 4);
        Due.answer("of an accepted one", x.dispute(0, 1), 2);
        Due.between(x, 0, 0, 1, 2, 1, 0);
        Due.piece(x, 0, 0, 1000, 3, 4);
        Due.answer("disputes", x.count(10), 2);
    }

    private static void disputeOfMoreThanFour() {
        PenGuild x = Due.guild(6);
        x.order(5, 1000);
        Due.drafts(x, 0, 0, 1, 1, 2, 3, 3, 4);
        Due.answer("who can", x.piece(0, 9), 31);
        Due.undoable(x, "by one who gets none", () -> x.dispute(0, 4), 0);
        Due.between(x, 0, 0, 1, 2, 1, 2, 0, 0);
        Due.answer("who can then", x.piece(0, 9), 16);
        x.order(5, 1000);
        Due.drafts(x, 1, 5, 4, 3, 2, 1, 0, 5);
        Due.answer("of several the lowest numbers", x.dispute(1, 4), 0);
        Due.between(x, 1, 0, 1, 1, 1, 0, 0, 2);
        x.order(0, 1000);
        Due.drafts(x, 2, 4, 4, 0, 1, 2, 3);
        Due.answer("with the most", x.dispute(2, 4), 2);
        Due.between(x, 2, 0, 1, 1, 1, 0, 2, 0);
        Due.answer("disputes", x.count(10), 3);
    }

    private static void disputeBesideOthers() {
        PenGuild x = Due.guild(2);
        for (int piece = 0; piece < 20; piece++) {
            x.order(0, 10);
            Due.drafts(x, piece, 0, 1, 1);
        }
        for (int piece = 19; piece >= 0; piece--) {
            Due.answer("dispute", x.dispute(piece, 1), 2);
        }
        for (int piece = 0; piece < 20; piece++) {
            Due.between(x, piece, 0, 1, 2);
            Due.answer("pens with parts", x.piece(piece, 5), 2);
        }
    }

    private static void disputeRefused() {
        PenGuild x = Due.guild(3);
        x.order(0, 1000);
        Due.refused(x, Due.STATE, "without drafts", () -> x.dispute(0, 0));
        Due.refused(x, Due.STATE, "without drafts by one without parts", () -> x.dispute(0, 1));
        Due.drafts(x, 0, 0, 1);
        Due.refused(x, Due.INDEX, "dispute(1, 1)", () -> x.dispute(1, 1));
        Due.refused(x, Due.INDEX, "dispute(-1, 1)", () -> x.dispute(-1, 1));
        Due.refused(x, Due.INDEX, "dispute(0, 3)", () -> x.dispute(0, 3));
        Due.refused(x, Due.INDEX, "dispute(0, -1)", () -> x.dispute(0, -1));
        Due.refused(x, Due.STATE, "by one with enough", () -> x.dispute(0, 0));
        Due.refused(x, Due.STATE, "by one without drafts", () -> x.dispute(0, 2));
        Due.write(x, "0*4,1*4");
        x.share(0);
        Due.refused(x, Due.STATE, "as many as it wrote", () -> x.dispute(0, 1));
        Due.write(x, "0*5,1*4");
        x.share(0);
        x.kill(0);
        Due.answer("who can of a killed one", x.piece(0, 9), 0);
        Due.refused(x, Due.STATE, "a killed one", () -> x.dispute(0, 1));
        x.undo();
        Due.answer("it can", x.dispute(0, 1), 1);
    }
}
