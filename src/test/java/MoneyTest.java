/** Promises 13 to 15, 26 and 28: money that comes in, and what it would bring. */
public final class MoneyTest {
    public static void main(String[] args) {
        accept();
        acceptInRemainders();
        acceptWithheld();
        acceptRefused();
        kill();
        killRefused();
        royalty();
        royaltyWithheld();
        royaltyCapped();
        royaltyInTheLeastCap();
        royaltyRefused();
        ifPaid();
        ifPaidRefused();
        bestPiece();
        bestPieceRefused();
        Due.end();
    }

    private static void accept() {
        PenGuild x = Due.guild(3);
        x.order(0, 109);
        x.order(1, 1000);
        x.draft(0, 0);
        Due.undoable(x, "accept", () -> x.accept(0), 10);
        Due.balances(x, 99, 0, 0);
        Due.piece(x, 0, 0, 109, 3, 1, 1, 1, 1, 0, 0, 0);
        Due.answer("reserve", x.count(3), 10);
        Due.answer("came in", x.count(4), 109);
        Due.answer("accepted", x.count(8), 1);
        Due.drafts(x, 1, 2, 2);
        x.set(0, 0);
        x.set(2, 100);
        Due.answer("accept without a percent", x.accept(1), 0);
        Due.balances(x, 99, 1000, 0);
        Due.answer("fees have no cap", x.count(12), 0);
        Due.between(x, 1, 2, 0, 0, 0);
        Due.answer("royalties", x.piece(1, 7), 0);
        feeOfASoldByline();
    }

    private static void feeOfASoldByline() {
        PenGuild x = Due.guild(2);
        x.sell(0, 1, 0);
        x.order(0, 1000);
        x.draft(0, 1);
        x.accept(0);
        Due.balances(x, 900, 0);
    }

    private static void acceptInRemainders() {
        PenGuild x = Due.guild(4);
        accepts(x, 1000, "0*4,1*2,2", 514, 257, 129, 0);
        accepts(x, 1002, "0,1,2", 301, 301, 300, 0);
        accepts(x, 1003, "3,2,1,0", 226, 226, 226, 225);
        accepts(x, 1000, "0*3,1*5,2*7,3*2", 159, 265, 370, 106);
        accepts(x, 10, "3*9,1", 0, 1, 0, 8);
        accepts(x, 11, "2,3,1", 0, 4, 3, 3);
        accepts(x, 100000, "2*9,3*9,1*9,0*8", 20571, 23143, 23143, 23143);
    }

    /** A fee that comes in for a new piece is split so. */
    private static void accepts(PenGuild x, int fee, String parts, int... due) {
        int piece = Due.shared(x, 0, fee, parts);
        int[] before = new int[due.length];
        for (int pen = 0; pen < due.length; pen++) {
            before[pen] = x.pen(pen, 0);
        }
        Due.answer("accept " + fee + " " + parts, x.accept(piece), fee / 10);
        for (int pen = 0; pen < due.length; pen++) {
            Due.answer("of " + fee + " " + parts + " pen " + pen, x.pen(pen, 0) - before[pen], due[pen]);
        }
    }

    private static void acceptWithheld() {
        PenGuild x = Due.guild(3);
        Due.earn(x, 2, 10);
        x.accept(Due.shared(x, 2, 10000, "2"));
        x.advance(0, 300);
        x.advance(1, 5);
        int piece = Due.shared(x, 0, 1000, "0*4,1*2,2");
        Due.answer("accept", x.accept(piece), 100 + 257 + 5);
        Due.pen(x, 0, 300 + 257, 43, 514);
        Due.pen(x, 1, 5 + 252, 0, 257);
        Due.pen(x, 2, 10 + 9000 + 129, 0, 9139);
        Due.answer("reserve", x.count(3), 1000 - 305 + 362);
        int odd = Due.shared(x, 0, 10, "0");
        Due.answer("half is rounded up", x.accept(odd), 1 + 5);
        Due.pen(x, 0, 557 + 4, 38, 523);
        int most = Due.shared(x, 0, 1000, "0");
        Due.answer("at most what it owes", x.accept(most), 100 + 38);
        Due.pen(x, 0, 561 + 862, 0, 1423);
    }

    private static void acceptRefused() {
        PenGuild x = Due.guild(1);
        x.order(0, 100);
        Due.refused(x, Due.INDEX, "accept(1)", () -> x.accept(1));
        Due.refused(x, Due.INDEX, "accept(-1)", () -> x.accept(-1));
        Due.refused(x, Due.STATE, "in stage 0", () -> x.accept(0));
        x.draft(0, 0);
        x.draft(0, 0);
        Due.answer("in stage 2", x.accept(0), 10);
        Due.refused(x, Due.STATE, "in stage 3", () -> x.accept(0));
        x.undo();
        x.kill(0);
        Due.refused(x, Due.STATE, "in stage 4", () -> x.accept(0));
    }

    private static void kill() {
        PenGuild x = Due.guild(2);
        x.order(0, 999);
        x.order(0, 999);
        x.order(0, 999);
        x.draft(1, 1);
        Due.drafts(x, 2, 1, 1);
        Due.undoable(x, "kill in stage 0", () -> x.kill(0), 99);
        Due.piece(x, 0, 0, 999, 4, 1, 0, 1, 1, 0, 0, 0);
        Due.balances(x, 90, 0);
        Due.undoable(x, "kill in stage 1", () -> x.kill(1), 249);
        Due.balances(x, 90 + 225, 0);
        x.advance(0, 20);
        Due.undoable(x, "kill in stage 2", () -> x.kill(2), 499);
        Due.pen(x, 0, 315 + 20 + 450 - 20, 0, 765);
        Due.answer("killed", x.count(9), 3);
        Due.answer("came in", x.count(4), 99 + 249 + 499);
        Due.answer("reserve", x.count(3), 9 + 24 - 20 + 49 + 20);
        killByOtherPercents(x);
    }

    private static void killByOtherPercents(PenGuild x) {
        int free = x.order(1, 100);
        x.set(3, 0);
        Due.answer("kill for nothing", x.kill(free), 0);
        Due.answer("killed", x.piece(free, 2), 4);
        int whole = Due.shared(x, 1, 101, "1,0");
        x.set(4, 100);
        Due.answer("kill for all", x.kill(whole), 101);
        Due.balances(x, 765 + 46, 45);
    }

    private static void killRefused() {
        PenGuild x = Due.guild(1);
        x.order(0, 100);
        x.draft(0, 0);
        Due.refused(x, Due.INDEX, "kill(1)", () -> x.kill(1));
        Due.refused(x, Due.INDEX, "kill(-1)", () -> x.kill(-1));
        x.accept(0);
        Due.refused(x, Due.STATE, "kill an accepted one", () -> x.kill(0));
        x.undo();
        x.kill(0);
        Due.refused(x, Due.STATE, "kill a killed one", () -> x.kill(0));
    }

    private static void royalty() {
        PenGuild x = Due.guild(3);
        int piece = Due.shared(x, 0, 100, "0,1");
        x.accept(piece);
        x.sell(0, 2, 0);
        Due.balances(x, 45, 45, 0);
        Due.undoable(x, "royalty", () -> x.royalty(piece, 239), 23);
        Due.balances(x, 45 + 103, 45 + 102, 11);
        Due.between(x, piece, 2, 103, 102, 0);
        Due.answer("royalties", x.piece(piece, 7), 239);
        Due.answer("incomes of the owner", x.pen(2, 2), 11);
        Due.answer("came in", x.count(4), 339);
        Due.answer("reserve", x.count(3), 33);
        Due.answer("the least", x.royalty(piece, 1), 0);
        Due.between(x, piece, 2, 104, 102, 0);
        Due.answer("royalties", x.piece(piece, 7), 240);
        x.set(0, 0);
        x.set(1, 0);
        Due.answer("the greatest", x.royalty(piece, 100000), 0);
        Due.balances(x, 50149, 50147, 11);
    }

    private static void royaltyWithheld() {
        PenGuild x = Due.guild(2);
        x.accept(Due.shared(x, 1, 1000, "1"));
        x.advance(0, 80);
        int piece = Due.shared(x, 0, 10, "0,1");
        x.accept(piece);
        Due.pen(x, 0, 82, 77, 5);
        Due.answer("the incomes come one by one", x.royalty(piece, 100), 10 + 3 + 22);
        Due.pen(x, 0, 82 + 5 + 43 - 25, 52, 53);
        Due.between(x, piece, 2, 43, 42);
        x.set(1, 20);
        Due.answer("the byline's income is first", x.royalty(piece, 500), 50 + 50 + 2);
        Due.pen(x, 0, 105 + 100 + 175 - 52, 0, 53 + 275);
    }

    private static void royaltyCapped() {
        PenGuild x = Due.guild(2);
        int piece = Due.shared(x, 0, 100, "0,1");
        int other = Due.shared(x, 0, 100, "1");
        x.accept(piece);
        x.accept(other);
        Due.balances(x, 45, 135);
        x.set(2, 42);
        Due.undoable(x, "royalty over the cap", () -> x.royalty(piece, 100), 11);
        Due.balances(x, 45 + 5 + 42, 135 + 42);
        Due.between(x, piece, 2, 42, 42);
        Due.answer("came by the cap", x.count(12), 1);
        Due.answer("nothing more", x.royalty(piece, 100), 95);
        Due.balances(x, 97, 177);
        Due.answer("came by the cap", x.count(12), 86);
        Due.answer("of another piece", x.royalty(other, 40), 4);
        Due.balances(x, 99, 177 + 34);
        x.set(2, 30);
        Due.answer("what it got stays", x.royalty(piece, 10), 10);
        Due.between(x, piece, 2, 42, 42);
        x.set(2, 0);
        Due.answer("without a cap", x.royalty(piece, 100), 10);
        Due.between(x, piece, 2, 85, 84);
        x.set(2, 86);
        Due.answer("it was counted also then", x.royalty(piece, 100), 10 + 42 + 40);
        Due.between(x, piece, 2, 86, 86);
        x.nextYear();
        Due.answer("in a new year", x.royalty(piece, 100), 10);
        Due.between(x, piece, 2, 43, 42);
        Due.answer("all royalties", x.piece(piece, 7), 510);
    }

    private static void royaltyInTheLeastCap() {
        PenGuild x = Due.guild(1);
        int piece = Due.shared(x, 0, 100, "0");
        x.accept(piece);
        x.set(2, 1);
        Due.answer("a cap of 1", x.royalty(piece, 100), 10 + 84);
        Due.between(x, piece, 2, 1);
        x.set(2, 0);
        Due.answer("no cap", x.royalty(piece, 100), 10);
        Due.between(x, piece, 2, 86);
    }

    private static void royaltyRefused() {
        PenGuild x = Due.guild(1);
        x.order(0, 100);
        Due.refused(x, Due.INDEX, "royalty(1, 1)", () -> x.royalty(1, 1));
        Due.refused(x, Due.INDEX, "royalty(-1, 0)", () -> x.royalty(-1, 0));
        Due.refused(x, Due.ARGUMENT, "royalty(0, 0)", () -> x.royalty(0, 0));
        Due.refused(x, Due.ARGUMENT, "royalty(0, 100001)", () -> x.royalty(0, 100001));
        Due.refused(x, Due.STATE, "in stage 0", () -> x.royalty(0, 1));
        x.draft(0, 0);
        Due.refused(x, Due.STATE, "in stage 1", () -> x.royalty(0, 1));
        x.draft(0, 0);
        Due.refused(x, Due.STATE, "in stage 2", () -> x.royalty(0, 1));
        x.kill(0);
        Due.refused(x, Due.STATE, "in stage 4", () -> x.royalty(0, 1));
    }

    private static void ifPaid() {
        PenGuild x = Due.guild(4);
        x.accept(Due.shared(x, 3, 10000, "3"));
        x.advance(0, 30);
        x.advance(2, 1);
        int piece = Due.shared(x, 0, 100, "0*3,1*2,3");
        x.accept(piece);
        x.sell(0, 2, 0);
        x.set(2, 400);
        for (int amount : new int[] {1, 9, 10, 19, 20, 33, 77, 100, 501, 1000, 2000, 100000}) {
            for (int pen = 0; pen < 4; pen++) {
                long digest = x.digest();
                int told = x.ifPaid(piece, amount, pen);
                Due.answer("ifPaid changes nothing", x.digest(), digest);
                int before = x.pen(pen, 0);
                x.royalty(piece, amount);
                Due.answer("ifPaid " + amount + " of " + pen, told, x.pen(pen, 0) - before);
                x.undo();
            }
        }
        Due.answer("a sharer who owes nothing", x.ifPaid(piece, 1000, 1), 283);
        Due.answer("the owner, who owes 1", x.ifPaid(piece, 1000, 2), 49);
        Due.answer("at most the cap", x.ifPaid(piece, 2000, 0), 400 - x.pen(0, 1));
        ifPaidForTheOwnByline();
    }

    private static void ifPaidForTheOwnByline() {
        PenGuild x = Due.guild(2);
        x.accept(Due.shared(x, 1, 1000, "1"));
        int piece = Due.shared(x, 0, 10, "0,1");
        x.accept(piece);
        Due.answer("both incomes", x.ifPaid(piece, 100, 0), 48);
        x.advance(0, 80);
        Due.answer("both halves", x.ifPaid(piece, 100, 0), 2 + 21);
        x.withdraw(0, 1);
        Due.earn(x, 0, 154);
        Due.answer("it owes little", x.pen(0, 1), 3);
        Due.answer("the first income pays all", x.ifPaid(piece, 100, 0), 2 + 43);
        Due.earn(x, 0, 10);
        Due.answer("it owes nothing", x.ifPaid(piece, 100, 0), 48);
    }

    private static void ifPaidRefused() {
        PenGuild x = Due.guild(2);
        x.order(0, 100);
        Due.refused(x, Due.INDEX, "ifPaid(1, 1, 0)", () -> x.ifPaid(1, 1, 0));
        Due.refused(x, Due.INDEX, "ifPaid(-1, 0, 0)", () -> x.ifPaid(-1, 0, 0));
        Due.refused(x, Due.INDEX, "ifPaid(0, 0, 2)", () -> x.ifPaid(0, 0, 2));
        Due.refused(x, Due.INDEX, "ifPaid(0, 1, -1)", () -> x.ifPaid(0, 1, -1));
        Due.refused(x, Due.ARGUMENT, "ifPaid(0, 0, 0)", () -> x.ifPaid(0, 0, 0));
        Due.refused(x, Due.ARGUMENT, "ifPaid(0, 100001, 0)", () -> x.ifPaid(0, 100001, 0));
        Due.refused(x, Due.STATE, "ordered", () -> x.ifPaid(0, 1, 0));
        x.draft(0, 0);
        Due.refused(x, Due.STATE, "drafted", () -> x.ifPaid(0, 1, 0));
        x.kill(0);
        Due.refused(x, Due.STATE, "killed", () -> x.ifPaid(0, 1, 0));
    }

    private static void bestPiece() {
        PenGuild x = Due.guild(3);
        Due.answer("without pieces", x.bestPiece(0, 100), PenGuild.NONE);
        Due.shared(x, 0, 100, "0");
        x.kill(Due.shared(x, 0, 100, "0"));
        Due.answer("none accepted", x.bestPiece(0, 100), PenGuild.NONE);
        x.accept(Due.shared(x, 1, 100, "1"));
        x.accept(Due.shared(x, 1, 100, "0,1"));
        x.accept(Due.shared(x, 2, 100, "1,0"));
        x.accept(Due.shared(x, 0, 100, "0,1,2"));
        long digest = x.digest();
        Due.answer("of several the lowest number", x.bestPiece(0, 100), 3);
        Due.answer("its byline's", x.bestPiece(1, 100), 2);
        Due.answer("the byline's income counts", x.bestPiece(2, 100), 5);
        Due.answer("it changes nothing", x.digest(), digest);
        Due.answer("without any income", x.bestPiece(2, 1), 2);
        x.set(2, 20);
        Due.answer("the cap counts", x.bestPiece(0, 100), 5);
        Due.answer("the greatest amount", x.bestPiece(1, 100000), 2);
        PenGuild y = Due.guild(2);
        y.accept(Due.shared(y, 1, 100, "0"));
        y.accept(Due.shared(y, 0, 100, "1"));
        Due.answer("the first piece", y.bestPiece(0, 100), 0);
        Due.answer("the second piece", y.bestPiece(1, 100), 1);
    }

    private static void bestPieceRefused() {
        PenGuild x = Due.guild(2);
        Due.refused(x, Due.INDEX, "bestPiece(2, 1)", () -> x.bestPiece(2, 1));
        Due.refused(x, Due.INDEX, "bestPiece(-1, 0)", () -> x.bestPiece(-1, 0));
        Due.refused(x, Due.ARGUMENT, "bestPiece(0, 0)", () -> x.bestPiece(0, 0));
        Due.refused(x, Due.ARGUMENT, "bestPiece(0, 100001)", () -> x.bestPiece(0, 100001));
    }
}
