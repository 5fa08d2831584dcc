/** The sentences of promises 21 to 25. */
final class EdgesOfLooks {
    static void run() {
        pen();
        penAtTheGreatest();
        places();
        penRefused();
        piece();
        pieceAtTheGreatest();
        whoCanDispute();
        pieceRefused();
        between();
        betweenRefused();
        count();
        countAtTheGreatest();
        savedStates();
        setting();
    }

    private static void pen() {
        Sentences.says(21, "Returns a property of a pen.");
        PenGuild x = Due.guild(2);
        Due.pen(x, 0, 0, 0, 0, 0, 0, 1, 0, 0, 0);
        Due.pen(x, 1, 0, 0, 0, 1, 0, 1, 0, 0, 1);
        Sentences.says(21, "`what`: 0: balance; 1: what it owes; 2: all its incomes so far (with what was withheld);"
            + " 3: the owner of its byline; 4: the price at which that was sold last; 5: how many bylines it owns;"
            + " 6: what was paid out to it so far by withdraw(); 7: drafts that it wrote; 8: its place, from 0, if the"
            + " pens are ordered by their balances, the greatest one first, of several the one with the lowest number"
            + " first");
        Due.range(x, "pen", what -> x.pen(1, what), 0, 8);
        PenGuild y = Due.rich(3);
        y.advance(1, 1000);
        y.royalty(1, 100);
        y.withdraw(1, 40);
        y.withdraw(1, 2);
        y.sell(1, 2, 30);
        y.sell(0, 2, 7);
        y.draft(y.order(2, 10), 1);
        y.draft(3, 1);
        y.draft(y.order(2, 10), 1);
        Due.pen(y, 1, 100000 + 1000 + 2 + 42 - 42 + 30, 1000 - 3 - 43, 100090, 2, 30, 0, 42, 4, 1);
        Due.pen(y, 2, 100000 - 37, 0, 100000, 2, 0, 3, 0, 1, 2);
        y.kill(3);
        Due.answer("drafts of a killed one count", y.pen(1, 7), 4);
    }

    private static void penAtTheGreatest() {
        PenGuild x = Due.guild(12);
        for (int byline = 0; byline < 11; byline++) {
            x.sell(byline, 11, 0);
        }
        Due.answer("all bylines", x.pen(11, 5), 12);
        Due.answer("no byline", x.pen(0, 5), 0);
        Due.answer("the last place", x.pen(11, 8), 11);
        for (int piece = 0; piece < 20; piece++) {
            x.order(0, 10);
            for (int draft = 0; draft < 9; draft++) {
                x.draft(piece, 11);
            }
        }
        Due.answer("all drafts", x.pen(11, 7), 180);
        Due.answer("no draft", x.pen(0, 7), 0);
        x.accept(19);
        Due.answer("drafts of an accepted one count", x.pen(11, 7), 180);
    }

    private static void places() {
        PenGuild x = Due.guild(12);
        for (int pen = 0; pen < 12; pen++) {
            Due.answer("place among equal ones", x.pen(pen, 8), pen);
        }
        for (int pen = 11; pen > 0; pen--) {
            Due.earn(x, pen, 1000 + pen);
        }
        for (int pen = 0; pen < 12; pen++) {
            Due.answer("place", x.pen(pen, 8), 11 - pen);
        }
        x.withdraw(11, 1);
        Due.answer("of two the one with the lower number", x.pen(10, 8), 0);
        Due.answer("of two the one with the higher number", x.pen(11, 8), 1);
        Due.answer("the one behind them", x.pen(9, 8), 2);
    }

    private static void penRefused() {
        PenGuild x = Due.guild(2);
        Sentences.says(21, "`pen`: its number");
        Due.numbers(x, "pen", pen -> x.pen(pen, 0), 2);
        Sentences.says(21, "Returns the property.");
        Due.answer("its number is not its property", x.pen(1, 0), 0);
        Sentences.says(21, "Throws `IndexOutOfBoundsException` if there is no such pen");
        for (int what = 0; what < 9; what++) {
            int property = what;
            Due.refused(x, Due.INDEX, "pen(2, " + what + ")", () -> x.pen(2, property));
            Due.refused(x, Due.INDEX, "pen(-1, " + what + ")", () -> x.pen(-1, property));
        }
        Sentences.says(21, "Throws `IllegalArgumentException` if what is not 0 to 8");
        Due.refused(x, Due.ARGUMENT, "pen(0, 9)", () -> x.pen(0, 9));
        Due.refused(x, Due.ARGUMENT, "pen(0, -1)", () -> x.pen(0, -1));
    }

    private static void piece() {
        Sentences.says(22, "Returns a property of a piece.");
        PenGuild x = Due.guild(3);
        x.order(2, 10);
        Due.piece(x, 0, 2, 10, 0, 1, 0, 1, 1, 0, 1, 0);
        Sentences.says(22, "`what`: 0: byline; 1: fee; 2: stage; 3: contract number; 4: drafts; 5: pens with parts;"
            + " 6: all parts; 7: royalties that came in so far; 8: the kill fee as it is now, 0 if it is accepted or"
            + " killed; 9: the pens that can dispute its parts, as bits (of pen p: 2 to the power of p)");
        Due.range(x, "piece", what -> x.piece(0, what), 0, 9);
        x.revise(0, 100);
        x.draft(0, 0);
        Due.piece(x, 0, 2, 100, 1, 2, 1, 1, 1, 0, 25, 1);
        x.set(4, 26);
        Due.answer("as it is now", x.piece(0, 8), 26);
        x.draft(0, 1);
        Due.piece(x, 0, 2, 100, 2, 2, 2, 1, 1, 0, 50, 3);
        Due.write(x, "0,1,2*2");
        x.share(0);
        Due.piece(x, 0, 2, 100, 2, 3, 2, 3, 4, 0, 50, 3);
        x.accept(0);
        Due.piece(x, 0, 2, 100, 3, 3, 2, 3, 4, 0, 0, 3);
        x.royalty(0, 1);
        x.nextYear();
        x.royalty(0, 2);
        Due.answer("royalties of all years", x.piece(0, 7), 3);
        x.order(0, 100000);
        Due.answer("kill fee", x.piece(1, 8), 10000);
        x.kill(1);
        Due.piece(x, 1, 0, 100000, 4, 1, 0, 1, 1, 0, 0, 0);
    }

    private static void pieceAtTheGreatest() {
        PenGuild x = Due.guild(12);
        x.order(11, 100000);
        Due.write(x, "11*9,10*9,9*9,8*9");
        x.share(0);
        for (int draft = 0; draft < 9; draft++) {
            x.draft(0, 7);
        }
        x.set(5, 100);
        Due.piece(x, 0, 11, 100000, 2, 2, 9, 4, 36, 0, 100000, 128);
        x.accept(0);
        for (int i = 0; i < 300; i++) {
            x.royalty(0, 100000);
        }
        Due.piece(x, 0, 11, 100000, 3, 2, 9, 4, 36, 30000000, 0, 128);
        Due.answer("came in", x.count(4), 30100000);
    }

    private static void whoCanDispute() {
        PenGuild x = Due.guild(12);
        for (int pen = 0; pen < 12; pen++) {
            int piece = x.order(pen == 0 ? 1 : 0, 10);
            x.draft(piece, pen);
            Due.answer("the bit of " + pen, x.piece(piece, 9), 1 << pen);
        }
        x.order(0, 10);
        for (int pen = 3; pen < 12; pen++) {
            x.draft(12, pen);
        }
        Due.answer("9 pens", x.piece(12, 9), 4095 - 7);
    }

    private static void pieceRefused() {
        PenGuild x = Due.guild(1);
        x.order(0, 10);
        x.order(0, 10);
        Sentences.says(22, "`piece`: its number");
        Due.numbers(x, "piece", piece -> x.piece(piece, 0), 2);
        Sentences.says(22, "Returns the property.");
        Due.answer("its number is not its property", x.piece(1, 0), 0);
        Sentences.says(22, "Throws `IndexOutOfBoundsException` if there is no such piece");
        for (int what = 0; what < 10; what++) {
            int property = what;
            Due.refused(x, Due.INDEX, "piece(2, " + what + ")", () -> x.piece(2, property));
            Due.refused(x, Due.INDEX, "piece(-1, " + what + ")", () -> x.piece(-1, property));
        }
        Sentences.says(22, "Throws `IllegalArgumentException` if what is not 0 to 9");
        Due.refused(x, Due.ARGUMENT, "piece(0, 10)", () -> x.piece(0, 10));
        Due.refused(x, Due.ARGUMENT, "piece(0, -1)", () -> x.piece(0, -1));
    }

    private static void between() {
        Sentences.says(23, "Returns what a pen has to do with a piece.");
        PenGuild x = Due.guild(3);
        x.order(1, 10);
        x.order(2, 10);
        for (int what = 0; what < 3; what++) {
            Due.between(x, 0, what, 0, what == 0 ? 1 : 0, 0);
            Due.between(x, 1, what, 0, 0, what == 0 ? 1 : 0);
        }
        Sentences.says(23, "`what`: 0: its parts, 0 if it has none; 1: its drafts; 2: what it got of royalties of this"
            + " piece by its parts in this year");
        Due.range(x, "between", what -> x.between(0, 0, what), 0, 2);
        Due.write(x, "0*9,2");
        x.share(0);
        Due.between(x, 0, 0, 9, 0, 1);
        Due.between(x, 1, 0, 0, 0, 1);
        for (int draft = 0; draft < 9; draft++) {
            x.draft(0, 0);
        }
        Due.between(x, 0, 1, 9, 0, 0);
        x.accept(0);
        Due.between(x, 0, 2, 0, 0, 0);
        x.royalty(0, 20);
        Due.between(x, 0, 2, 15, 0, 2);
        Due.write(x, "1");
        x.share(0);
        Due.between(x, 0, 0, 0, 1, 0);
        x.royalty(0, 20);
        Due.between(x, 0, 2, 15, 17, 2);
        Due.between(x, 1, 2, 0, 0, 0);
        x.nextYear();
        Due.between(x, 0, 2, 0, 0, 0);
    }

    private static void betweenRefused() {
        PenGuild x = Due.guild(3);
        x.order(0, 10);
        x.order(1, 10);
        Sentences.says(23, "`piece`: its number");
        Due.numbers(x, "between", piece -> x.between(piece, 0, 0), 2);
        Sentences.says(23, "`pen`: the number of the pen");
        Due.numbers(x, "between", pen -> x.between(0, pen, 0), 3);
        Sentences.says(23, "Returns the number.");
        Due.answer("parts", x.between(1, 1, 0), 1);
        Due.answer("parts", x.between(1, 2, 0), 0);
        Sentences.says(23, "Throws `IndexOutOfBoundsException` if there is no such piece or pen");
        for (int what = 0; what < 3; what++) {
            int kind = what;
            Due.refused(x, Due.INDEX, "between(2, 0, " + what + ")", () -> x.between(2, 0, kind));
            Due.refused(x, Due.INDEX, "between(-1, 0, " + what + ")", () -> x.between(-1, 0, kind));
            Due.refused(x, Due.INDEX, "between(0, 3, " + what + ")", () -> x.between(0, 3, kind));
            Due.refused(x, Due.INDEX, "between(0, -1, " + what + ")", () -> x.between(0, -1, kind));
        }
        Sentences.says(23, "Throws `IllegalArgumentException` if what is not 0 to 2");
        Due.refused(x, Due.ARGUMENT, "between(0, 0, 3)", () -> x.between(0, 0, 3));
        Due.refused(x, Due.ARGUMENT, "between(0, 0, -1)", () -> x.between(0, 0, -1));
    }

    private static void counts(PenGuild x, int... due) {
        for (int what = 0; what < due.length; what++) {
            Due.answer("count(" + what + ")", x.count(what), due[what]);
        }
    }

    private static void count() {
        Sentences.says(24, "Returns a number.");
        PenGuild x = new PenGuild();
        counts(x, 0, 0, 0, 0, 0, 0, 0, 0, 0, 0, 0, 0, 0, 0);
        Sentences.says(24, "`what`: 0: pens; 1: pieces; 2: year; 3: reserve; 4: all that came in so far;"
            + " 5: all balances; 6: all that is owed; 7: all that was paid out by withdraw(); 8: pieces that are"
            + " accepted; 9: pieces that are killed; 10: disputes so far; 11: bylines that are not"
            + " owned by their own pen; 12: what came to the reserve by the cap so far; 13: saved states");
        Due.range(x, "count", what -> x.count(what), 0, 13);
        x.addPen();
        x.addPen();
        counts(x, 2, 0, 0, 0, 0, 0, 0, 0, 0, 0, 0, 0, 0, 2);
        x.order(0, 100);
        x.draft(0, 1);
        counts(x, 2, 1, 0, 0, 0, 0, 0, 0, 0, 0, 0, 0, 0, 4);
        x.dispute(0, 1);
        x.accept(0);
        counts(x, 2, 1, 0, 10, 100, 90, 0, 0, 1, 0, 1, 0, 0, 6);
        x.sell(0, 1, 9);
        x.advance(0, 10);
        x.withdraw(1, 1);
        counts(x, 2, 1, 0, 0, 100, 99, 10, 1, 1, 0, 1, 1, 0, 6);
        x.kill(x.order(1, 100));
        x.nextYear();
        x.set(2, 50);
        x.royalty(0, 100);
        counts(x, 2, 2, 1, 1 + 10 + 35, 210, 99 + 9 + 55, 10, 1, 1, 1, 1, 1, 35, 6);
        x.buyBack(0);
        counts(x, 2, 2, 1, 46, 210, 163, 10, 1, 1, 1, 1, 0, 35, 6);
        x.undo();
        counts(x, 2, 2, 1, 46, 210, 163, 10, 1, 1, 1, 1, 1, 35, 5);
        x.undo();
        counts(x, 2, 2, 1, 1, 110, 108, 10, 1, 1, 1, 1, 1, 0, 4);
    }

    private static void countAtTheGreatest() {
        PenGuild x = Due.guild(12);
        for (int byline = 0; byline < 12; byline++) {
            x.sell(byline, (byline + 1) % 12, 0);
        }
        for (int piece = 0; piece < 20; piece++) {
            x.order(0, 100000);
            x.draft(piece, 1);
            x.dispute(piece, 1);
        }
        counts(x, 12, 20, 0, 0, 0, 0, 0, 0, 0, 0, 20, 12, 0, 6);
        for (int piece = 0; piece < 20; piece++) {
            x.accept(piece);
        }
        counts(x, 12, 20, 0, 200000, 2000000, 1800000, 0, 0, 20, 0, 20, 12, 0, 6);
        PenGuild y = Due.guild(1);
        for (int piece = 0; piece < 20; piece++) {
            y.kill(y.order(0, 100000));
        }
        counts(y, 1, 20, 0, 20000, 200000, 180000, 0, 0, 0, 20, 0, 0, 0, 6);
        Sentences.says(24, "Returns the number.");
        Due.answer("pieces", y.count(1), 20);
        Sentences.says(24, "Throws `IllegalArgumentException` if what is not 0 to 13");
        for (int what : new int[] {-1, 14, 15, Integer.MIN_VALUE, Integer.MAX_VALUE}) {
            Due.refused(y, Due.ARGUMENT, "count(" + what + ")", () -> y.count(what));
        }
    }

    private static void savedStates() {
        PenGuild x = new PenGuild();
        int[] saved = {0, 1, 2, 3, 4, 5, 6, 6, 6};
        for (int calls = 0; calls < saved.length; calls++) {
            Due.answer("saved states", x.count(13), saved[calls]);
            x.nextYear();
        }
    }

    private static void setting() {
        Sentences.says(25, "Returns a setting.");
        PenGuild x = new PenGuild();
        int[] first = {10, 5, 0, 10, 25, 50};
        for (int setting = 0; setting < 6; setting++) {
            Due.answer("setting(" + setting + ")", x.setting(setting), first[setting]);
        }
        Sentences.says(25, "`setting`: 0 to 5");
        Due.numbers(x, "setting", setting -> x.setting(setting), 6);
        Sentences.says(25, "Returns its value.");
        int[] values = {30, 20, 10000, 100, 99, 0};
        for (int setting = 0; setting < 6; setting++) {
            x.set(setting, values[setting]);
        }
        for (int setting = 0; setting < 6; setting++) {
            Due.answer("setting(" + setting + ")", x.setting(setting), values[setting]);
        }
        Sentences.says(25, "Throws `IndexOutOfBoundsException` if there is no such setting");
        Due.refused(x, Due.INDEX, "setting(6)", () -> x.setting(6));
        Due.refused(x, Due.INDEX, "setting(-1)", () -> x.setting(-1));
    }

    private EdgesOfLooks() {
    }
}
