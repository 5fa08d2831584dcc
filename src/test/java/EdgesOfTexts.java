import java.util.HashSet;
import java.util.Set;

/** The sentences of "Terms" on the input text, and those of promises 17 to 20. */
final class EdgesOfTexts {
    static void run() {
        sixtyCharacters();
        lists();
        noPenTwice();
        firstOfAll();
        allListsOfFivePens();
        allOneItemLists();
        append();
        clearBuffer();
        firstError();
        undo();
    }

    private static void sixtyCharacters() {
        Sentences.says(0, "The buffer has at most 60 characters.");
        PenGuild x = new PenGuild();
        for (int length = 1; length <= 60; length++) {
            Due.answer("append", x.append(length % 2 == 0 ? 33 : 126), length);
        }
        Due.refused(x, Due.STATE, "the 61st", () -> x.append(33));
        Due.answer("length", x.clearBuffer(), 60);
        Due.answer("the first again", x.append(33), 1);
    }

    private static void lists() {
        Sentences.says(0, "A list of parts is one to four of these with \",\" between them: the number of a pen (0 to"
            + " 11, without leading zeros), possibly followed by \"*\" and a digit, 2 to 9: its parts"
            + " (1 without \"*\").");
        PenGuild x = Due.guild(12);
        x.order(0, 10);
        list(x, "0", 1);
        list(x, "11", 0, 0, 0, 0, 0, 0, 0, 0, 0, 0, 0, 1);
        list(x, "0*2", 2);
        list(x, "11*9", 0, 0, 0, 0, 0, 0, 0, 0, 0, 0, 0, 9);
        list(x, "3,2", 0, 0, 1, 1);
        list(x, "10*3,1,9", 0, 1, 0, 0, 0, 0, 0, 0, 0, 1, 3, 0);
        list(x, "8*9,7*9,6*9,5*9", 0, 0, 0, 0, 0, 9, 9, 9, 9);
        list(x, "11,10,1,0", 1, 1, 0, 0, 0, 0, 0, 0, 0, 0, 1, 1);
        String[] others = {"", ",", "0,", ",0", "0,,1", "00", "01", "010", "12", "20", "0*", "0*0", "0*1", "0*10",
            "0*22", "*2", "0**2", "0*2*2", "0*2,", "0,1,2,3,", "0,1,2,3,4", "0,1,2,12", "-1", "+1", "1.", "0;1",
            "1*a", "A"};
        for (String text : others) {
            Due.write(x, text);
            Due.refused(x, Due.ARGUMENT, "share of " + text, () -> x.share(0));
        }
    }

    private static void list(PenGuild x, String text, int... due) {
        Due.write(x, text);
        int all = 0;
        for (int parts : due) {
            all += parts;
        }
        Due.answer("firstError of " + text, x.firstError(), text.length());
        Due.answer("share of " + text, x.share(0), all);
        Due.between(x, 0, 0, due);
    }

    private static void noPenTwice() {
        Sentences.says(0, "No pen stands in a list twice.");
        PenGuild x = Due.guild(12);
        x.order(0, 10);
        String[] twice = {"0,0", "11,11", "1,1", "1,10,1", "11,1,1", "0,1,2,0", "0*2,0*3", "10,1,11,10"};
        for (String text : twice) {
            Due.write(x, text);
            Due.refused(x, Due.ARGUMENT, "share of " + text, () -> x.share(0));
        }
        for (String text : new String[] {"1,10,11", "11,10,1", "1,11", "10,1*2"}) {
            Due.write(x, text);
            Due.taken("share of " + text, () -> x.share(0));
        }
        errorAt("0,0", 2);
        errorAt("11,11", 4);
        errorAt("1,1", 3);
        errorAt("1,1*", 3);
        errorAt("1,1,", 3);
        errorAt("1,10,11,1", 8);
        errorAt("0,1,2,1", 7);
        errorAt("0,1,2,0", 6);
    }

    private static void firstOfAll() {
        Sentences.says(0, "The buffer is read from left to right; a character is a syntax error if no list begins with"
            + " the characters before it and this character. (It is no syntax error if there is no such pen.)");
        errorAt("", 0);
        errorAt("11*9,10*8,9,0", 13);
        errorAt("11*9,10*9,9*9,8*9", 17);
        errorAt("11*9,10*9,9*9,8*9,", 17);
        errorAt("11*9,10*9,9*9,8*90", 17);
        errorAt("0,", 2);
        errorAt("0*", 2);
        errorAt("x0,1", 0);
        errorAt("0,x,y", 2);
    }

    private static void errorAt(String text, int due) {
        PenGuild x = new PenGuild();
        Due.write(x, text);
        Due.answer("firstError of " + text, x.firstError(), due);
    }

    /** All beginnings of lists of these items, by going through the lists. */
    private static void begin(Set<String> beginnings, String text, String[] items, int[] pens, int count, int most) {
        for (int i = 0; i < items.length; i++) {
            boolean stands = false;
            for (int before = 0; before < count; before++) {
                stands |= pens[before] == penOf(items[i]);
            }
            if (!stands) {
                pens[count] = penOf(items[i]);
                String longer = count == 0 ? items[i] : text + "," + items[i];
                for (int length = 0; length <= longer.length(); length++) {
                    beginnings.add(longer.substring(0, length));
                }
                if (count + 1 < most) {
                    begin(beginnings, longer, items, pens, count + 1, most);
                }
            }
        }
    }

    private static int penOf(String item) {
        return Integer.parseInt(item.split("\\*")[0]);
    }

    /** These items are enough to tell each beginning made of their characters, since 5 pens are more than 4. */
    private static void allListsOfFivePens() {
        String[] items = {"0", "0*2", "1", "1*2", "2", "2*2", "10", "10*2", "11", "11*2"};
        Set<String> beginnings = new HashSet<>();
        begin(beginnings, "", items, new int[4], 0, 4);
        compare(beginnings, beginnings, "012,*!+-./:;a~");
    }

    private static void allOneItemLists() {
        String[] items = new String[12 * 9];
        for (int i = 0; i < items.length; i++) {
            items[i] = i / 9 + (i % 9 == 0 ? "" : "*" + (i % 9 + 1));
        }
        Set<String> starts = new HashSet<>();
        begin(starts, "", items, new int[1], 0, 1);
        Set<String> beginnings = new HashSet<>();
        begin(beginnings, "", items, new int[2], 0, 2);
        StringBuilder all = new StringBuilder();
        for (char c = 33; c <= 126; c++) {
            all.append(c);
        }
        compare(starts, beginnings, all.toString());
    }

    /** Each start, and one of these characters behind it: an error if the whole is no beginning of a list. */
    private static void compare(Set<String> starts, Set<String> beginnings, String characters) {
        PenGuild x = new PenGuild();
        int calls = 0;
        for (String start : starts) {
            for (char c : characters.toCharArray()) {
                String text = start + c;
                calls += text.length() + 3;
                if (calls > 500) {
                    x = new PenGuild();
                    calls = text.length() + 3;
                }
                Due.write(x, text);
                int due = beginnings.contains(text) ? text.length() : start.length();
                Due.answer("firstError of " + text, x.firstError(), due);
            }
        }
    }

    private static void append() {
        Sentences.says(17, "Appends a character to the buffer.");
        PenGuild x = new PenGuild();
        long empty = x.digest();
        Due.answer("append", x.append('0'), 1);
        Due.answer("the digest tells it", x.digest() == empty ? 1 : 0, 0);
        Due.answer("it is no error", x.firstError(), 1);
        Sentences.says(17, "`code`: the character code, 33 to 126");
        Due.range(x, "append", code -> x.append(code), 33, 126);
        Sentences.says(17, "Returns the new length of the buffer.");
        x.clearBuffer();
        Due.answer("the first", x.append('0'), 1);
        for (int length = 2; length < 60; length++) {
            x.append('0');
        }
        Due.answer("the last", x.append('0'), 60);
        Sentences.says(17, "Throws `IllegalArgumentException` if code is not 33 to 126");
        for (int code : new int[] {32, 127, 0, -33, 33 + 128, 33 + 256, 33 + 65536}) {
            Due.refused(x, Due.ARGUMENT, "append to a full one of " + code, () -> x.append(code));
        }
        x.clearBuffer();
        for (int code : new int[] {32, 127, 0, -33, 33 + 128, 33 + 256, 33 + 65536}) {
            Due.refused(x, Due.ARGUMENT, "append to an empty one of " + code, () -> x.append(code));
        }
        appendToAFullOne();
    }

    private static void appendToAFullOne() {
        Sentences.says(17, "Throws `IllegalStateException` if the buffer has 60 characters");
        PenGuild x = new PenGuild();
        for (int length = 1; length < 60; length++) {
            x.append('0');
        }
        Due.answer("with 59 characters", x.append('0'), 60);
        Due.refused(x, Due.STATE, "with 60 characters", () -> x.append('0'));
        Due.refused(x, Due.STATE, "with 60 characters", () -> x.append(126));
        Due.answer("length", x.clearBuffer(), 60);
    }

    private static void clearBuffer() {
        Sentences.says(18, "Clears the buffer.");
        PenGuild x = new PenGuild();
        long empty = x.digest();
        Due.write(x, "0,x");
        x.clearBuffer();
        Due.answer("digest", x.digest(), empty);
        Due.answer("firstError", x.firstError(), 0);
        Sentences.says(18, "Returns the length that it had.");
        Due.answer("of an empty one", x.clearBuffer(), 0);
        x.append('x');
        Due.answer("of one character", x.clearBuffer(), 1);
        for (int length = 1; length <= 60; length++) {
            x.append('x');
        }
        Due.answer("of a full one", x.clearBuffer(), 60);
        Due.answer("of a cleared one", x.clearBuffer(), 0);
    }

    private static void firstError() {
        Sentences.says(19, "Finds the first syntax error of the buffer.");
        errorAt("x,x", 0);
        errorAt("0*2,x,x", 4);
        Sentences.says(19, "Returns the index of the first character that is a syntax error; the length of the buffer"
            + " if there is none.");
        errorAt("", 0);
        errorAt(",", 0);
        errorAt("7", 1);
        errorAt("7,7", 2);
        errorAt("11*9,10*9,9*9,8*9" + "0".repeat(43), 17);
        errorAt("9".repeat(60), 1);
        errorAt("!".repeat(60), 0);
        PenGuild x = new PenGuild();
        Due.write(x, "0,1");
        long digest = x.digest();
        Due.answer("firstError", x.firstError(), 3);
        Due.answer("firstError again", x.firstError(), 3);
        Due.answer("nothing is changed", x.digest(), digest);
    }

    private static void undo() {
        Sentences.says(20, "Restores the latest saved state, and drops it.");
        PenGuild x = new PenGuild();
        x.nextYear();
        x.set(0, 0);
        x.undo();
        Due.answer("the setting", x.setting(0), 10);
        Due.answer("the year stays", x.count(2), 1);
        x.undo();
        Due.answer("the year", x.count(2), 0);
        Sentences.says(20, "Returns how many saved states are left.");
        for (int i = 0; i < 7; i++) {
            x.nextYear();
        }
        for (int left = 5; left >= 0; left--) {
            Due.answer("undo", x.undo(), left);
            Due.answer("saved", x.count(13), left);
        }
        Sentences.says(20, "Throws `IllegalStateException` if there is none");
        Due.refused(x, Due.STATE, "undo of nothing", () -> x.undo());
        Due.refused(x, Due.STATE, "undo of nothing again", () -> x.undo());
        x.nextYear();
        Due.answer("undo of one", x.undo(), 0);
        PenGuild y = new PenGuild();
        Due.refused(y, Due.STATE, "undo of nothing in a new one", () -> y.undo());
    }

    private EdgesOfTexts() {
    }
}
