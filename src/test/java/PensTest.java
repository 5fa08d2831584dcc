/** Promises 1 to 8: a new object, pens and bylines. */
public final class PensTest {
    public static void main(String[] args) {
        newObject();
        addPen();
        sell();
        sellRefused();
        buyBack();
        buyBackRefused();
        advance();
        withdraw();
        set();
        nextYear();
        Due.end();
    }

    private static void newObject() {
        PenGuild x = new PenGuild();
        for (int what = 0; what < 14; what++) {
            Due.answer("new count(" + what + ")", x.count(what), 0);
        }
        int[] settings = {10, 5, 0, 10, 25, 50};
        long hash = 2281;
        for (int what = 0; what < 14; what++) {
            hash = 31 * hash;
        }
        for (int i = 0; i < 6; i++) {
            Due.answer("new setting(" + i + ")", x.setting(i), settings[i]);
            hash = 31 * hash + settings[i];
        }
        Due.answer("new digest", x.digest(), 31 * (31 * hash));
        Due.answer("new firstError", x.firstError(), 0);
        Due.answer("new clearBuffer", x.clearBuffer(), 0);
        Due.answer("new spread", x.spread(), 0.0);
        Due.refused(x, Due.STATE, "new undo", () -> x.undo());
        Due.refused(x, Due.INDEX, "new pen", () -> x.pen(0, 0));
        Due.refused(x, Due.INDEX, "new piece", () -> x.piece(0, 0));
        PenGuild y = new PenGuild();
        y.addPen();
        Due.answer("objects are apart", x.count(0), 0);
        Due.answer("NONE", PenGuild.NONE, -1);
    }

    private static void addPen() {
        PenGuild x = new PenGuild();
        for (int pen = 0; pen < 12; pen++) {
            Due.undoable(x, "addPen", () -> x.addPen(), pen);
            Due.answer("pens", x.count(0), pen + 1);
            Due.pen(x, pen, 0, 0, 0, pen, 0, 1, 0, 0, pen);
        }
        Due.refused(x, Due.STATE, "the 13th pen", () -> x.addPen());
        x.undo();
        Due.refused(x, Due.INDEX, "a pen that was undone", () -> x.pen(11, 0));
        Due.answer("addPen after undo", x.addPen(), 11);
    }

    private static void sell() {
        PenGuild x = Due.guild(4);
        Due.earn(x, 1, 1000);
        Due.earn(x, 2, 500);
        Due.undoable(x, "sell(0, 1, 300)", () -> x.sell(0, 1, 300), 0);
        Due.pen(x, 0, 300, 0, 0, 1, 300, 0);
        Due.pen(x, 1, 700, 0, 1000, 1, 0, 2);
        Due.answer("bylines away", x.count(11), 1);
        Due.answer("sold by its owner", x.sell(0, 2, 500), 1);
        Due.pen(x, 0, 300, 0, 0, 2, 500, 0);
        Due.pen(x, 1, 1200, 0, 1000, 1, 0, 1);
        Due.pen(x, 2, 0, 0, 500, 2, 0, 2);
        Due.answer("for nothing", x.sell(0, 3, 0), 2);
        Due.pen(x, 0, 300, 0, 0, 3, 0, 0);
        Due.answer("back to its pen", x.sell(0, 0, 300), 3);
        Due.pen(x, 0, 0, 0, 0, 0, 300, 1);
        Due.pen(x, 3, 300, 0, 0, 3, 0, 1);
        Due.answer("bylines away", x.count(11), 0);
        Due.answer("nothing came in by it", x.count(4), 1500);
        sellToOneThatIsOwed();
    }

    private static void sellToOneThatIsOwed() {
        PenGuild x = Due.guild(2);
        Due.earn(x, 1, 100000);
        x.kill(x.order(1, 100000));
        x.advance(0, 400);
        Due.answer("the greatest price", x.sell(0, 1, 100000), 0);
        Due.pen(x, 0, 100400, 400, 0);
    }

    private static void sellRefused() {
        PenGuild x = Due.guild(3);
        Due.earn(x, 1, 500);
        x.sell(2, 1, 0);
        Due.refused(x, Due.INDEX, "sell(3, 1, 0)", () -> x.sell(3, 1, 0));
        Due.refused(x, Due.INDEX, "sell(-1, 1, 0)", () -> x.sell(-1, 1, 0));
        Due.refused(x, Due.INDEX, "sell(0, 3, 0)", () -> x.sell(0, 3, 0));
        Due.refused(x, Due.INDEX, "sell(0, -1, 0)", () -> x.sell(0, -1, 0));
        Due.refused(x, Due.INDEX, "sell(3, 3, -1)", () -> x.sell(3, 3, -1));
        Due.refused(x, Due.INDEX, "sell(0, 3, 100001)", () -> x.sell(0, 3, 100001));
        Due.refused(x, Due.ARGUMENT, "sell(0, 1, -1)", () -> x.sell(0, 1, -1));
        Due.refused(x, Due.ARGUMENT, "sell(0, 2, 100001)", () -> x.sell(0, 2, 100001));
        Due.refused(x, Due.ARGUMENT, "sell(0, 0, 0)", () -> x.sell(0, 0, 0));
        Due.refused(x, Due.ARGUMENT, "sell(0, 0, 1)", () -> x.sell(0, 0, 1));
        Due.refused(x, Due.ARGUMENT, "to the owner", () -> x.sell(2, 1, 0));
        Due.refused(x, Due.ARGUMENT, "to the owner, who has too little", () -> x.sell(2, 1, 501));
        Due.refused(x, Due.STATE, "sell(0, 1, 501)", () -> x.sell(0, 1, 501));
        Due.refused(x, Due.STATE, "sell(0, 1, 100000)", () -> x.sell(0, 1, 100000));
        Due.answer("all that it has", x.sell(0, 1, 500), 0);
    }

    private static void buyBack() {
        PenGuild x = Due.guild(3);
        Due.earn(x, 0, 1000);
        Due.earn(x, 1, 1000);
        x.sell(0, 1, 99);
        Due.undoable(x, "buyBack", () -> x.buyBack(0), 108);
        Due.pen(x, 0, 1000 + 99 - 108, 0, 1000, 0, 108, 1);
        Due.pen(x, 1, 1000 - 99 + 108, 0, 1000, 1, 0, 1);
        x.sell(0, 1, 9);
        Due.answer("a tenth is rounded down", x.buyBack(0), 9);
        x.sell(0, 1, 0);
        Due.answer("buyBack for nothing", x.buyBack(0), 0);
        x.sell(0, 1, 10);
        x.sell(0, 2, 0);
        Due.answer("by the last price", x.buyBack(0), 0);
        buyBackWithAllItHas();
    }

    private static void buyBackWithAllItHas() {
        PenGuild x = Due.guild(3);
        Due.earn(x, 1, 100000);
        Due.earn(x, 0, 10000);
        x.sell(0, 1, 100000);
        Due.answer("all that it has", x.buyBack(0), 110000);
        Due.pen(x, 0, 0, 0, 10000, 0, 110000, 1);
        Due.pen(x, 1, 110000, 0, 100000);
    }

    private static void buyBackRefused() {
        PenGuild x = Due.guild(3);
        Due.earn(x, 1, 1000);
        x.sell(0, 1, 100);
        Due.refused(x, Due.INDEX, "buyBack(3)", () -> x.buyBack(3));
        Due.refused(x, Due.INDEX, "buyBack(-1)", () -> x.buyBack(-1));
        Due.refused(x, Due.STATE, "its own", () -> x.buyBack(1));
        Due.refused(x, Due.STATE, "too little", () -> x.buyBack(0));
        Due.earn(x, 0, 10);
        x.withdraw(0, 1);
        Due.refused(x, Due.STATE, "1 too little", () -> x.buyBack(0));
        x.undo();
        Due.answer("just enough", x.buyBack(0), 110);
        Due.refused(x, Due.STATE, "bought back", () -> x.buyBack(0));
    }

    private static void advance() {
        PenGuild x = Due.guild(2);
        x.accept(Due.shared(x, 0, 10000, "0"));
        Due.undoable(x, "advance(1, 300)", () -> x.advance(1, 300), 300);
        Due.pen(x, 1, 300, 300, 0);
        Due.answer("reserve", x.count(3), 700);
        Due.answer("owed", x.count(6), 300);
        Due.answer("more of it", x.advance(1, 1), 301);
        Due.refused(x, Due.INDEX, "advance(2, 1)", () -> x.advance(2, 1));
        Due.refused(x, Due.INDEX, "advance(-1, 0)", () -> x.advance(-1, 0));
        Due.refused(x, Due.ARGUMENT, "advance(0, 0)", () -> x.advance(0, 0));
        Due.refused(x, Due.ARGUMENT, "advance(0, 100001)", () -> x.advance(0, 100001));
        Due.refused(x, Due.STATE, "advance(0, 700)", () -> x.advance(0, 700));
        Due.refused(x, Due.STATE, "advance(0, 100000)", () -> x.advance(0, 100000));
        Due.answer("the whole reserve", x.advance(0, 699), 699);
        Due.answer("reserve", x.count(3), 0);
        Due.answer("an advance is no income", x.pen(0, 2), 9000);
        Due.answer("nor withheld", x.pen(0, 0), 9699);
        Due.refused(x, Due.STATE, "no reserve", () -> x.advance(0, 1));
    }

    private static void withdraw() {
        PenGuild x = Due.guild(2);
        Due.earn(x, 0, 1000);
        Due.undoable(x, "withdraw(0, 300)", () -> x.withdraw(0, 300), 700);
        Due.pen(x, 0, 700, 0, 1000, 0, 0, 1, 300);
        Due.answer("more of it", x.withdraw(0, 1), 699);
        Due.answer("paid out", x.pen(0, 6), 301);
        Due.answer("paid out in all", x.count(7), 301);
        Due.refused(x, Due.INDEX, "withdraw(2, 1)", () -> x.withdraw(2, 1));
        Due.refused(x, Due.INDEX, "withdraw(-1, 0)", () -> x.withdraw(-1, 0));
        Due.refused(x, Due.ARGUMENT, "withdraw(1, 0)", () -> x.withdraw(1, 0));
        Due.refused(x, Due.ARGUMENT, "withdraw(1, 100001)", () -> x.withdraw(1, 100001));
        Due.refused(x, Due.STATE, "withdraw(0, 700)", () -> x.withdraw(0, 700));
        Due.refused(x, Due.STATE, "withdraw(1, 100000)", () -> x.withdraw(1, 100000));
        Due.answer("all of it", x.withdraw(0, 699), 0);
        Due.answer("balances", x.count(5), 0);
    }

    private static void set() {
        PenGuild x = new PenGuild();
        int[] first = {10, 5, 0, 10, 25, 50};
        int[] greatest = {30, 20, 10000, 100, 100, 100};
        for (int i = 0; i < 6; i++) {
            int setting = i;
            Due.undoable(x, "set " + i + " to the greatest", () -> x.set(setting, greatest[setting]), first[i]);
            Due.answer("setting(" + i + ")", x.setting(i), greatest[i]);
            Due.refused(x, Due.ARGUMENT, "set " + i + " too great", () -> x.set(setting, greatest[setting] + 1));
            Due.refused(x, Due.ARGUMENT, "set " + i + " below 0", () -> x.set(setting, -1));
            Due.undoable(x, "set " + i + " to 0", () -> x.set(setting, 0), greatest[i]);
            Due.answer("setting(" + i + ")", x.setting(i), 0);
            Due.undoable(x, "set " + i + " to what it is", () -> x.set(setting, 0), 0);
            x.undo();
        }
        Due.refused(x, Due.INDEX, "set(6, 0)", () -> x.set(6, 0));
        Due.refused(x, Due.INDEX, "set(-1, -1)", () -> x.set(-1, -1));
    }

    private static void nextYear() {
        PenGuild x = Due.guild(2);
        x.set(2, 50);
        int piece = Due.shared(x, 0, 1000, "0,1");
        x.accept(piece);
        x.royalty(piece, 100);
        Due.between(x, piece, 2, 43, 42);
        Due.undoable(x, "nextYear", () -> x.nextYear(), 1);
        Due.between(x, piece, 2, 0, 0);
        Due.answer("year", x.count(2), 1);
        Due.answer("royalties of all years", x.piece(piece, 7), 100);
        x.royalty(piece, 20);
        Due.between(x, piece, 2, 9, 8);
        Due.answer("nextYear", x.nextYear(), 2);
    }
}
