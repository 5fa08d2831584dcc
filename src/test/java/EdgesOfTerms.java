/** The sentences of "Terms" on pens, pieces, settings, disputes, undo and exceptions. */
final class EdgesOfTerms {
    static void run() {
        pens();
        whatAPenHas();
        bylines();
        pieces();
        whatAPieceHas();
        draftsOfAPiece();
        partsOfAPiece();
        firstParts();
        stagesOfDrafts();
        settings();
        whoCanDispute();
        partsOfADispute();
        none();
    }

    private static void pens() {
        Sentences.says(0, "There are at most 12 pens, numbered from 0 in the order in which they came.");
        PenGuild x = new PenGuild();
        Due.refused(x, Due.INDEX, "pen 0 of none", () -> x.pen(0, 0));
        for (int pen = 0; pen < 12; pen++) {
            int next = pen + 1;
            Due.answer("addPen", x.addPen(), pen);
            Due.answer("it is the last one", x.pen(pen, 8), pen);
            Due.refused(x, Due.INDEX, "the next one", () -> x.pen(next, 8));
        }
        Due.refused(x, Due.STATE, "the 13th", () -> x.addPen());
        Due.answer("pens", x.count(0), 12);
    }

    private static void whatAPenHas() {
        Sentences.says(0, "A pen has a balance, an amount that it owes (advances), and a byline,"
            + " whose number is that of the pen.");
        PenGuild x = Due.guild(12);
        for (int pen = 0; pen < 12; pen += 11) {
            Due.pen(x, pen, 0, 0, 0, pen, 0, 1, 0, 0, pen);
        }
        Due.answer("the last byline", x.order(11, 10), 0);
        Due.answer("byline of the piece", x.piece(0, 0), 11);
        Due.refused(x, Due.INDEX, "the byline after it", () -> x.order(12, 10));
        x.draft(0, 0);
        x.accept(0);
        x.advance(11, 1);
        Due.pen(x, 11, 10, 1);
        Due.pen(x, 10, 0, 0);
    }

    private static void bylines() {
        Sentences.says(0, "A byline has an owner, at first its own pen, and a price at which it was sold last,"
            + " at first 0.");
        PenGuild x = Due.guild(12);
        for (int pen = 0; pen < 12; pen++) {
            int own = pen;
            Due.answer("first owner", x.pen(pen, 3), pen);
            Due.answer("first price", x.pen(pen, 4), 0);
            Due.refused(x, Due.STATE, "it owns its byline", () -> x.buyBack(own));
        }
        x.order(1, 10);
        x.draft(0, 1);
        x.accept(0);
        x.sell(0, 1, 9);
        Due.answer("owner", x.pen(0, 3), 1);
        Due.answer("price", x.pen(0, 4), 9);
        Due.answer("price of the buyer's", x.pen(1, 4), 0);
        x.sell(0, 2, 0);
        Due.answer("owner", x.pen(0, 3), 2);
        Due.answer("price", x.pen(0, 4), 0);
    }

    private static void pieces() {
        Sentences.says(0, "There are at most 20 pieces, numbered from 0 in the order in which they came.");
        PenGuild x = Due.guild(1);
        Due.refused(x, Due.INDEX, "piece 0 of none", () -> x.piece(0, 1));
        for (int piece = 0; piece < 20; piece++) {
            int next = piece + 1;
            Due.answer("order", x.order(0, 10 + piece), piece);
            Due.answer("its fee", x.piece(piece, 1), 10 + piece);
            Due.refused(x, Due.INDEX, "the next one", () -> x.piece(next, 1));
        }
        Due.refused(x, Due.STATE, "the 21st", () -> x.order(0, 10));
        x.kill(3);
        Due.refused(x, Due.STATE, "a killed one is a piece still", () -> x.order(0, 10));
        Due.answer("pieces", x.count(1), 20);
    }

    private static void whatAPieceHas() {
        Sentences.says(0, "A piece has a byline, a fee, a stage (0: ordered, 1: drafted, 2: revised, 3: accepted,"
            + " 4: killed), a contract number, at first 1, drafts (for each pen a number of them, 9 together at most),"
            + " and parts: 1 to 4 pens have 1 to 9 parts each.");
        PenGuild x = Due.guild(12);
        x.order(11, 10);
        Due.piece(x, 0, 11, 10, 0, 1, 0, 1, 1, 0, 1, 0);
        x.draft(0, 11);
        Due.answer("drafted", x.piece(0, 2), 1);
        x.draft(0, 11);
        Due.answer("revised", x.piece(0, 2), 2);
        x.accept(0);
        Due.answer("accepted", x.piece(0, 2), 3);
        x.order(0, 100000);
        Due.piece(x, 1, 0, 100000, 0, 1, 0, 1, 1, 0, 10000, 0);
        x.kill(1);
        Due.answer("killed", x.piece(1, 2), 4);
        Due.answer("no contract was revised", x.piece(0, 3) + x.piece(1, 3), 2);
    }

    private static void draftsOfAPiece() {
        PenGuild x = Due.guild(12);
        x.order(0, 10);
        x.order(0, 10);
        for (int draft = 0; draft < 9; draft++) {
            Due.answer("drafts of one pen", x.draft(0, 11), draft == 0 ? 1 : 2);
            Due.answer("drafts of many pens", x.draft(1, draft), draft == 0 ? 1 : 2);
        }
        Due.refused(x, Due.STATE, "the 10th draft of one pen", () -> x.draft(0, 11));
        Due.refused(x, Due.STATE, "the 10th draft by another pen", () -> x.draft(0, 0));
        Due.refused(x, Due.STATE, "the 10th draft by a 10th pen", () -> x.draft(1, 9));
        Due.between(x, 0, 1, 0, 0, 0, 0, 0, 0, 0, 0, 0, 0, 0, 9);
        Due.between(x, 1, 1, 1, 1, 1, 1, 1, 1, 1, 1, 1, 0, 0, 0);
        Due.answer("drafts", x.piece(0, 4), 9);
        Due.answer("drafts", x.piece(1, 4), 9);
        x.order(0, 10);
        Due.answer("another piece has none", x.draft(2, 11), 1);
        x.undo();
        x.undo();
        x.undo();
        Due.answer("the 9th draft after undo", x.draft(1, 9), 2);
    }

    private static void partsOfAPiece() {
        PenGuild x = Due.guild(12);
        x.order(0, 10);
        shares(x, "7", 1, 1);
        shares(x, "7*9", 1, 9);
        shares(x, "11*9,10*9,9*9,8*9", 4, 36);
        shares(x, "8,9,10,11", 4, 4);
        for (String text : new String[] {"", "8,9,10,11,7", "7*10", "7*0", "7*1"}) {
            Due.write(x, text);
            Due.refused(x, Due.ARGUMENT, "share of " + text, () -> x.share(0));
        }
        for (int draft = 0; draft < 9; draft++) {
            x.draft(0, draft);
        }
        x.dispute(0, 7);
        Due.answer("pens with parts after a dispute of 9", x.piece(0, 5), 4);
        x.order(0, 10);
        for (int draft = 0; draft < 9; draft++) {
            x.draft(1, 3);
        }
        Due.answer("all 9 parts", x.dispute(1, 3), 9);
        Due.answer("of one pen", x.piece(1, 5), 1);
    }

    private static void shares(PenGuild x, String text, int pens, int parts) {
        Due.write(x, text);
        Due.answer("share of " + text, x.share(0), parts);
        Due.answer("pens with parts by " + text, x.piece(0, 5), pens);
        Due.answer("parts by " + text, x.piece(0, 6), parts);
    }

    private static void firstParts() {
        Sentences.says(0, "At first the pen of the byline, whoever owns it, has 1 part, and no other one has any.");
        PenGuild x = Due.guild(12);
        x.sell(0, 11, 0);
        x.sell(11, 0, 0);
        x.order(0, 10);
        x.order(11, 10);
        Due.between(x, 0, 0, 1, 0, 0, 0, 0, 0, 0, 0, 0, 0, 0, 0);
        Due.between(x, 1, 0, 0, 0, 0, 0, 0, 0, 0, 0, 0, 0, 0, 1);
        Due.piece(x, 1, 11, 10, 0, 1, 0, 1, 1);
    }

    private static void stagesOfDrafts() {
        Sentences.says(0, "A draft can be written in the stages 0 to 2: by the first draft the stage becomes 1,"
            + " by each later one 2 (nothing else makes it so).");
        PenGuild x = Due.guild(2);
        x.order(0, 10);
        reviseAndShare(x, 0);
        Due.answer("the first draft", x.draft(0, 1), 1);
        reviseAndShare(x, 1);
        x.dispute(0, 1);
        Due.answer("a dispute is no draft", x.piece(0, 2), 1);
        Due.answer("the second draft", x.draft(0, 1), 2);
        Due.answer("the third draft", x.draft(0, 0), 2);
        reviseAndShare(x, 2);
        x.undo();
        x.undo();
        x.undo();
        x.undo();
        Due.answer("the third draft undone", x.piece(0, 2), 2);
        x.undo();
        Due.answer("the second draft undone", x.piece(0, 2), 1);
        x.accept(0);
        Due.refused(x, Due.STATE, "a draft in stage 3", () -> x.draft(0, 0));
        x.order(0, 10);
        x.kill(1);
        Due.refused(x, Due.STATE, "a draft in stage 4", () -> x.draft(1, 0));
    }

    private static void reviseAndShare(PenGuild x, int stage) {
        x.revise(0, 20);
        x.revise(0, 10);
        Due.write(x, "0");
        x.share(0);
        Due.answer("the stage stays", x.piece(0, 2), stage);
    }

    private static void settings() {
        Sentences.says(0, "0: the reserve percent, 0 to 30, at first 10; 1: the byline percent, 0 to 20, at first 5;"
            + " 2: the cap, 0 to 10000, at first 0 (none); 3, 4, 5: the kill percent of the stages 0, 1, 2,"
            + " each 0 to 100, at first 10, 25, 50.");
        int[] first = {10, 5, 0, 10, 25, 50};
        int[] greatest = {30, 20, 10000, 100, 100, 100};
        for (int setting = 0; setting < 6; setting++) {
            int number = setting;
            PenGuild x = Due.guild(1);
            Due.answer("first value of " + setting, x.setting(setting), first[setting]);
            Due.range(x, "set " + setting, value -> x.set(number, value), 0, greatest[setting]);
            Due.answer("greatest value of " + setting, x.setting(setting), greatest[setting]);
            for (int other = 0; other < 6; other++) {
                Due.answer("value of " + other, x.setting(other), other == setting ? greatest[other] : first[other]);
            }
        }
        killPercents();
    }

    private static void killPercents() {
        PenGuild x = Due.guild(1);
        x.set(3, 1);
        x.set(4, 20);
        x.set(5, 100);
        x.order(0, 100);
        Due.answer("in stage 0", x.piece(0, 8), 1);
        x.draft(0, 0);
        Due.answer("in stage 1", x.piece(0, 8), 20);
        x.draft(0, 0);
        Due.answer("in stage 2", x.piece(0, 8), 100);
    }

    private static void whoCanDispute() {
        Sentences.says(0, "A pen can dispute the parts of a piece that is not killed, if its parts (0 if it has none)"
            + " times all drafts of the piece are less than its drafts times all parts.");
        can(Due.guild(3), "0", new int[] {}, 0);
        can(Due.guild(3), "0", new int[] {0}, 0);
        can(Due.guild(3), "0", new int[] {1}, 2);
        can(Due.guild(3), "0*4,1*4", new int[] {0, 1}, 0);
        can(Due.guild(3), "0*5,1*4", new int[] {0, 1}, 2);
        can(Due.guild(3), "0*4,1*5", new int[] {0, 1}, 1);
        can(Due.guild(3), "0*2,1", new int[] {0, 0, 1, 0, 0, 1}, 0);
        can(Due.guild(3), "0*9,1*8", new int[] {0, 0, 0, 0, 0, 1, 1, 1, 1}, 1);
        can(Due.guild(3), "0*9,1*7", new int[] {0, 0, 0, 0, 0, 1, 1, 1, 1}, 2);
        can(Due.guild(3), "0,1", new int[] {0, 1, 2}, 4);
        can(Due.guild(12), "0*9,1*9,2*9,3*9", new int[] {11, 11, 11, 11, 11, 11, 11, 11, 11}, 2048);
        disputeInEachStage();
    }

    /** With these parts and drafts the pens of these bits can dispute the parts, and no others. */
    private static void can(PenGuild x, String parts, int[] drafts, int bits) {
        x.order(0, 10);
        Due.write(x, parts);
        x.share(0);
        Due.drafts(x, 0, drafts);
        Due.answer("who can with " + parts, x.piece(0, 9), bits);
        for (int pen = 0; pen < x.count(0); pen++) {
            int one = pen;
            if ((bits >> pen) % 2 == 0) {
                Due.refused(x, Due.STATE, "dispute by " + pen + " of " + parts, () -> x.dispute(0, one));
            } else {
                Due.taken("dispute by " + pen + " of " + parts, () -> x.dispute(0, one) + x.undo());
            }
        }
    }

    private static void disputeInEachStage() {
        PenGuild x = Due.guild(2);
        x.order(0, 10);
        x.draft(0, 1);
        Due.answer("in stage 1", x.dispute(0, 1), 1);
        x.draft(0, 0);
        Due.answer("in stage 2", x.dispute(0, 0), 1);
        Due.write(x, "0");
        x.share(0);
        x.accept(0);
        Due.answer("who can in stage 3", x.piece(0, 9), 2);
        Due.answer("in stage 3", x.dispute(0, 1), 1);
        x.order(0, 10);
        x.draft(1, 1);
        x.kill(1);
        Due.answer("who can in stage 4", x.piece(1, 9), 0);
        Due.refused(x, Due.STATE, "in stage 4", () -> x.dispute(1, 1));
    }

    private static void partsOfADispute() {
        Sentences.says(0, "The parts become those of the pens who wrote drafts, each one as many as its drafts;"
            + " if these are more than 4 pens, those 4 with the most drafts, of several with as many the ones"
            + " with the lowest numbers.");
        disputed(new int[] {1}, 0, 1, 0, 0, 0, 0, 0, 0, 0, 0, 0, 0);
        disputed(new int[] {11, 11, 11, 11, 11, 11, 11, 11, 11}, 0, 0, 0, 0, 0, 0, 0, 0, 0, 0, 0, 9);
        disputed(new int[] {8, 9, 10, 11}, 0, 0, 0, 0, 0, 0, 0, 0, 1, 1, 1, 1);
        disputed(new int[] {5, 4, 3, 2, 1, 2, 3, 4, 5}, 0, 0, 2, 2, 2, 2, 0, 0, 0, 0, 0, 0);
        disputed(new int[] {11, 10, 9, 8, 7}, 0, 0, 0, 0, 0, 0, 0, 1, 1, 1, 1, 0);
        disputed(new int[] {11, 11, 9, 8, 7, 6}, 0, 0, 0, 0, 0, 0, 1, 1, 1, 0, 0, 2);
        disputed(new int[] {1, 2, 3, 4, 5, 6, 7, 8, 9}, 0, 1, 1, 1, 1, 0, 0, 0, 0, 0, 0, 0);
        disputed(new int[] {0, 1, 2, 2, 3, 3, 4, 4, 4}, 1, 0, 2, 2, 3, 0, 0, 0, 0, 0, 0, 0);
        disputed(new int[] {1, 2, 3, 4, 4, 5, 5, 6, 6}, 0, 1, 0, 0, 2, 2, 2, 0, 0, 0, 0, 0);
    }

    /** A dispute of a piece with these drafts, and with parts of a pen who wrote none, if there is one. */
    private static void disputed(int[] drafts, int... due) {
        PenGuild x = Due.guild(12);
        x.order(0, 10);
        Due.drafts(x, 0, drafts);
        for (int pen = 11; pen > 0; pen--) {
            if (x.between(0, pen, 1) > 0) {
                Due.answer("dispute by " + pen, x.dispute(0, pen), due[pen]);
                break;
            }
        }
        Due.between(x, 0, 0, due);
    }

    private static void none() {
        Sentences.says(0, "The constants: `NONE = -1`: There is nothing to return.");
        Due.answer("NONE", PenGuild.NONE, -1);
        PenGuild x = Due.guild(1);
        Due.answer("no piece", x.bestPiece(0, 1), PenGuild.NONE);
    }

    private EdgesOfTerms() {
    }
}
