/** The sentences of promises 1 to 8. */
final class EdgesOfPens {
    static void run() {
        newGuild();
        addPen();
        sell();
        sellRefused();
        buyBack();
        buyBackRefused();
        advance();
        advanceRefused();
        withdraw();
        withdrawRefused();
        set();
        nextYear();
    }

    private static void newGuild() {
        Sentences.says(1, "Creates a guild without pens, in the year 0, with a reserve of 0 and an empty buffer.");
        PenGuild x = new PenGuild();
        for (int what = 0; what < 14; what++) {
            Due.answer("count(" + what + ")", x.count(what), 0);
        }
        Due.refused(x, Due.INDEX, "pen 0", () -> x.pen(0, 0));
        Due.refused(x, Due.INDEX, "piece 0", () -> x.piece(0, 0));
        Due.refused(x, Due.STATE, "undo", () -> x.undo());
        Due.answer("spread", x.spread(), 0.0);
        Due.answer("firstError", x.firstError(), 0);
        Due.answer("clearBuffer", x.clearBuffer(), 0);
        x.addPen();
        Due.refused(x, Due.STATE, "an advance from the reserve of 0", () -> x.advance(0, 1));
        Due.answer("another guild", new PenGuild().count(0), 0);
    }

    private static void addPen() {
        Sentences.says(2, "Adds a pen. Undoable.");
        PenGuild x = new PenGuild();
        Due.undoable(x, "the first", () -> x.addPen(), 0);
        for (int pen = 1; pen < 11; pen++) {
            x.addPen();
        }
        Due.undoable(x, "the last", () -> x.addPen(), 11);
        Due.answer("pens", x.count(0), 12);
        Sentences.says(2, "Returns its number.");
        x.undo();
        Due.answer("the number of the last", x.addPen(), 11);
        Due.answer("the number of the first", new PenGuild().addPen(), 0);
        Sentences.says(2, "Throws `IllegalStateException` if there are 12 pens");
        Due.refused(x, Due.STATE, "the 13th", () -> x.addPen());
        Due.refused(x, Due.STATE, "the 13th again", () -> x.addPen());
        x.undo();
        Due.taken("with 11 pens", () -> x.addPen());
    }

    private static void sell() {
        Sentences.says(3, "Sells a byline: its owner gets the price from the balance of another pen, which owns it"
            + " then. Undoable.");
        PenGuild x = Due.rich(3);
        Due.undoable(x, "sell", () -> x.sell(1, 2, 400), 1);
        Due.pen(x, 1, 100400, 0, 100000, 2, 400, 0);
        Due.pen(x, 2, 99600, 0, 100000, 2, 0, 2);
        x.sell(1, 0, 1);
        Due.pen(x, 1, 100400, 0, 100000, 0, 1, 0);
        Due.pen(x, 2, 99601, 0, 100000, 2, 0, 1);
        Sentences.says(3, "Returns the pen that owned it.");
        Due.answer("the first owner", x.sell(2, 1, 0), 2);
        Due.answer("a later owner", x.sell(2, 0, 0), 1);
        Due.answer("an owner from whom its own pen buys", x.sell(2, 2, 0), 0);
        Due.answer("its own pen", x.sell(0, 2, 0), 0);
        sellRanges();
    }

    private static void sellRanges() {
        PenGuild x = Due.rich(3);
        Sentences.says(3, "`byline`: its number");
        Due.numbers(x, "byline", byline -> x.sell(byline, byline == 0 ? 1 : 0, 0) + x.undo(), 3);
        Sentences.says(3, "`to`: the pen that buys it");
        Due.numbers(x, "to", to -> x.sell(1, to, 0) + x.undo(), 3);
        Sentences.says(3, "`price`: 0 to 100000");
        Due.range(x, "price", price -> x.sell(1, 0, price) + x.undo(), 0, 100000);
        x.sell(1, 0, 100000);
        Due.pen(x, 1, 200000, 0, 100000, 0, 100000, 0);
    }

    private static void sellRefused() {
        PenGuild x = Due.rich(3);
        x.sell(1, 2, 0);
        Sentences.says(3, "Throws `IndexOutOfBoundsException` if there is no such byline or pen");
        Due.refused(x, Due.INDEX, "no byline", () -> x.sell(3, 0, 0));
        Due.refused(x, Due.INDEX, "no byline", () -> x.sell(-1, 0, 0));
        Due.refused(x, Due.INDEX, "no pen", () -> x.sell(0, 3, 0));
        Due.refused(x, Due.INDEX, "no pen", () -> x.sell(0, -1, 0));
        Sentences.says(3, "Throws `IllegalArgumentException` if price is out of range, or to owns it");
        Due.refused(x, Due.ARGUMENT, "a price below 0", () -> x.sell(2, 0, -1));
        Due.refused(x, Due.ARGUMENT, "a price above 100000", () -> x.sell(2, 0, 100001));
        Due.refused(x, Due.ARGUMENT, "its own one", () -> x.sell(0, 0, 0));
        Due.refused(x, Due.ARGUMENT, "a bought one", () -> x.sell(1, 2, 0));
        Due.taken("to the pen of the byline, which does not own it", () -> x.sell(1, 1, 0));
        Sentences.says(3, "Throws `IllegalStateException` if the balance of to is less than the price");
        x.withdraw(2, 99901);
        Due.refused(x, Due.STATE, "1 less", () -> x.sell(0, 2, 100));
        Due.refused(x, Due.STATE, "much less", () -> x.sell(0, 2, 100000));
        Due.taken("as much", () -> x.sell(0, 2, 99));
        Due.answer("nothing is left", x.pen(2, 0), 0);
        Due.refused(x, Due.STATE, "1 of nothing", () -> x.sell(1, 2, 1));
        Due.taken("nothing of nothing", () -> x.sell(1, 2, 0));
    }

    private static void buyBack() {
        Sentences.says(4, "A pen buys its own byline back, as if it was sold to it at the price at which it was sold"
            + " last, and a tenth of that more (the owner gets all of it, and it is the price at which the byline was"
            + " sold last then). Undoable.");
        PenGuild x = Due.rich(3);
        x.sell(0, 1, 100);
        x.sell(0, 2, 2009);
        Due.undoable(x, "buyBack", () -> x.buyBack(0), 2209);
        Due.pen(x, 0, 350100 - 2209, 0, 350000, 0, 2209, 1);
        Due.pen(x, 1, 101909, 0, 100000, 1, 0, 1);
        Due.pen(x, 2, 100200, 0, 100000, 2, 0, 1);
        Sentences.says(4, "Returns what it pays.");
        int[] prices = {0, 1, 9, 10, 19, 20, 99, 100, 99999, 100000};
        int[] paid = {0, 1, 9, 11, 20, 22, 108, 110, 109998, 110000};
        for (int i = 0; i < prices.length; i++) {
            x.sell(0, 1, prices[i]);
            Due.answer("sold for", x.pen(0, 4), prices[i]);
            Due.answer("buyBack after " + prices[i], x.buyBack(0), paid[i]);
            Due.answer("price", x.pen(0, 4), paid[i]);
        }
        PenGuild y = Due.rich(2);
        y.sell(1, 0, 100000);
        y.sell(0, 1, 0);
        Sentences.says(4, "`pen`: its number");
        Due.numbers(y, "buyBack", pen -> y.buyBack(pen) + y.undo(), 2);
    }

    private static void buyBackRefused() {
        Sentences.says(4, "Throws `IndexOutOfBoundsException` if there is no such pen");
        PenGuild x = Due.rich(3);
        Due.refused(x, Due.INDEX, "buyBack(-1)", () -> x.buyBack(-1));
        Due.refused(x, Due.INDEX, "buyBack(3)", () -> x.buyBack(3));
        Sentences.says(4, "Throws `IllegalStateException` if it owns its byline, or its balance is less than what it"
            + " would pay");
        x.sell(1, 0, 5000);
        Due.refused(x, Due.STATE, "its own one", () -> x.buyBack(2));
        Due.refused(x, Due.STATE, "its own one beside another one", () -> x.buyBack(0));
        x.withdraw(1, 99501);
        Due.refused(x, Due.STATE, "1 less than what it would pay", () -> x.buyBack(1));
        x.undo();
        x.withdraw(1, 99500);
        Due.answer("as much as it pays", x.buyBack(1), 5500);
        Due.answer("nothing is left", x.pen(1, 0), 0);
        Due.refused(x, Due.STATE, "what it bought back", () -> x.buyBack(1));
        x.sell(1, 0, 1);
        x.sell(1, 2, 0);
        x.withdraw(1, 1);
        Due.answer("nothing of nothing", x.buyBack(1), 0);
    }

    private static void advance() {
        Sentences.says(5, "Pays an advance from the reserve to the balance of a pen, which owes it. Undoable.");
        PenGuild x = Due.rich(3);
        Due.undoable(x, "advance", () -> x.advance(1, 300), 300);
        Due.pen(x, 1, 100300, 300, 100000, 1, 0, 1, 0);
        Due.answer("reserve", x.count(3), 149700);
        Due.answer("balances", x.count(5), 550300);
        Due.answer("owed", x.count(6), 300);
        Sentences.says(5, "Returns what it owes then.");
        Due.answer("more of it", x.advance(1, 1), 301);
        Due.answer("the least of another pen", x.advance(0, 1), 1);
        Due.answer("the greatest", x.advance(1, 100000), 100301);
        PenGuild y = Due.rich(3);
        Sentences.says(5, "`pen`: its number");
        Due.numbers(y, "advance", pen -> y.advance(pen, 1) + y.undo(), 3);
        Sentences.says(5, "`amount`: 1 to 100000");
        Due.range(y, "advance", amount -> y.advance(2, amount) + y.undo(), 1, 100000);
    }

    private static void advanceRefused() {
        PenGuild x = Due.rich(2);
        Sentences.says(5, "Throws `IndexOutOfBoundsException` if there is no such pen");
        Due.refused(x, Due.INDEX, "advance(-1, 1)", () -> x.advance(-1, 1));
        Due.refused(x, Due.INDEX, "advance(2, 1)", () -> x.advance(2, 1));
        Sentences.says(5, "Throws `IllegalArgumentException` if amount is out of range");
        Due.refused(x, Due.ARGUMENT, "advance(0, 0)", () -> x.advance(0, 0));
        Due.refused(x, Due.ARGUMENT, "advance(0, -1)", () -> x.advance(0, -1));
        Due.refused(x, Due.ARGUMENT, "advance(0, 100001)", () -> x.advance(0, 100001));
        Sentences.says(5, "Throws `IllegalStateException` if the reserve is less than amount");
        x.advance(0, 100000);
        Due.refused(x, Due.STATE, "50001 of 50000", () -> x.advance(1, 50001));
        Due.refused(x, Due.STATE, "100000 of 50000", () -> x.advance(1, 100000));
        Due.answer("50000 of 50000", x.advance(1, 50000), 50000);
        Due.answer("reserve", x.count(3), 0);
        Due.refused(x, Due.STATE, "1 of 0", () -> x.advance(1, 1));
    }

    private static void withdraw() {
        Sentences.says(6, "Pays something of the balance of a pen out. Undoable.");
        PenGuild x = Due.rich(2);
        Due.undoable(x, "withdraw", () -> x.withdraw(1, 300), 99700);
        Due.pen(x, 1, 99700, 0, 100000, 1, 0, 1, 300);
        Due.answer("paid out", x.count(7), 300);
        Due.answer("balances", x.count(5), 449700);
        Due.answer("reserve", x.count(3), 150000);
        Sentences.says(6, "Returns its balance then.");
        Due.answer("the least", x.withdraw(1, 1), 99699);
        Due.answer("the greatest", x.withdraw(0, 100000), 250000);
        Due.answer("all of it", x.withdraw(1, 99699), 0);
        PenGuild y = Due.rich(3);
        Sentences.says(6, "`pen`: its number");
        Due.numbers(y, "withdraw", pen -> y.withdraw(pen, 1) + y.undo(), 3);
        Sentences.says(6, "`amount`: 1 to 100000");
        Due.range(y, "withdraw", amount -> y.withdraw(0, amount) + y.undo(), 1, 100000);
    }

    private static void withdrawRefused() {
        PenGuild x = Due.rich(2);
        Sentences.says(6, "Throws `IndexOutOfBoundsException` if there is no such pen");
        Due.refused(x, Due.INDEX, "withdraw(-1, 1)", () -> x.withdraw(-1, 1));
        Due.refused(x, Due.INDEX, "withdraw(2, 1)", () -> x.withdraw(2, 1));
        Sentences.says(6, "Throws `IllegalArgumentException` if amount is out of range");
        Due.refused(x, Due.ARGUMENT, "withdraw(0, 0)", () -> x.withdraw(0, 0));
        Due.refused(x, Due.ARGUMENT, "withdraw(0, -1)", () -> x.withdraw(0, -1));
        Due.refused(x, Due.ARGUMENT, "withdraw(0, 100001)", () -> x.withdraw(0, 100001));
        Sentences.says(6, "Throws `IllegalStateException` if its balance is less than amount");
        x.withdraw(1, 90000);
        Due.refused(x, Due.STATE, "10001 of 10000", () -> x.withdraw(1, 10001));
        Due.refused(x, Due.STATE, "100000 of 10000", () -> x.withdraw(1, 100000));
        Due.answer("10000 of 10000", x.withdraw(1, 10000), 0);
        Due.refused(x, Due.STATE, "1 of 0", () -> x.withdraw(1, 1));
    }

    private static void set() {
        Sentences.says(7, "Changes a setting. Undoable.");
        PenGuild x = new PenGuild();
        Due.undoable(x, "set", () -> x.set(2, 9), 0);
        Due.answer("setting", x.setting(2), 9);
        Sentences.says(7, "`setting`: 0 to 5");
        Due.numbers(x, "set", setting -> x.set(setting, 1) + x.undo(), 6);
        Sentences.says(7, "`value`: the new value");
        int[] greatest = {30, 20, 10000, 100, 100, 100};
        for (int setting = 0; setting < 6; setting++) {
            int number = setting;
            PenGuild y = new PenGuild();
            Due.range(y, "set " + setting, value -> y.set(number, value), 0, greatest[setting]);
            y.set(setting, 1);
            Due.answer("setting", y.setting(setting), 1);
        }
        Sentences.says(7, "Returns the previous value.");
        Due.answer("of a setting that was set", x.set(2, 10000), 9);
        Due.answer("of the same value", x.set(2, 10000), 10000);
        int[] first = {10, 5, 10000, 10, 25, 50};
        for (int setting = 0; setting < 6; setting++) {
            Due.answer("previous value of " + setting, x.set(setting, 0), first[setting]);
            Due.answer("previous value of " + setting, x.set(setting, 0), 0);
        }
        setRefused(x);
    }

    private static void setRefused(PenGuild x) {
        Sentences.says(7, "Throws `IndexOutOfBoundsException` if there is no such setting");
        Due.refused(x, Due.INDEX, "set(6, 0)", () -> x.set(6, 0));
        Due.refused(x, Due.INDEX, "set(-1, 0)", () -> x.set(-1, 0));
        Sentences.says(7, "Throws `IllegalArgumentException` if value is out of range");
        int[] greatest = {30, 20, 10000, 100, 100, 100};
        for (int setting = 0; setting < 6; setting++) {
            int number = setting;
            Due.refused(x, Due.ARGUMENT, "below 0", () -> x.set(number, -1));
            Due.refused(x, Due.ARGUMENT, "above the greatest", () -> x.set(number, greatest[number] + 1));
            Due.answer("setting", x.setting(setting), 0);
        }
    }

    private static void nextYear() {
        Sentences.says(8, "Begins a new year. Undoable.");
        PenGuild x = Due.rich(1);
        x.set(2, 10);
        x.nextYear();
        x.royalty(0, 100);
        Due.answer("got", x.between(0, 0, 2), 10);
        Due.undoable(x, "nextYear", () -> x.nextYear(), 2);
        Due.answer("got", x.between(0, 0, 2), 0);
        Due.answer("year", x.count(2), 2);
        Sentences.says(8, "Returns its number.");
        PenGuild y = new PenGuild();
        for (int year = 1; year <= 500; year++) {
            Due.answer("nextYear", y.nextYear(), year);
        }
        Due.answer("year", y.count(2), 500);
    }

    private EdgesOfPens() {
    }
}
