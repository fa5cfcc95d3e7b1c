/** The edges of promises 25 to 29, each sentence by itself. */
public final class EdgesTextsTest extends Edge {
    public static void main(String[] args) {
        feed();
        trim();
        text();
        textUsesUp();
        words();
        keys();
        pieces();
        ends();
        signs();
        open();
        nots();
        names();
        worths();
        wraps();
        textTold();
        why();
        end(25, 29);
    }

    private static CreweChange fullTape() {
        CreweChange x = crewe();
        x.trim(0);
        for (int i = 0; i < 8; i++) x.feed(0x77616c6b, 0x20202020, 0x20202077);
        return x;
    }

    private static CreweChange fourteenTexts() {
        CreweChange x = withStops(5);
        for (int i = 0; i < 14; i++) EdgesTextsTest.text(x, "walk " + i);
        return x;
    }

    private static void feed() {
        of(25, "how many it has, 96 at most");
        CreweChange x = new CreweChange();
        for (int i = 1; i <= 8; i++) due(x.feed(0, 0, 0), 12 * i);
        due(x.feed(0, 0, 0), FULL);
        due(x.count(9), 96);
        of(25, "FULL: it would have more than 96");
        refused(EdgesTextsTest::fullTape, FULL, y -> y.feed(0, 0, 0), y -> y.feed(MOST, LEAST, -1));
        x.trim(85);
        due(x.feed(0, 0, 0), FULL);
        due(x.count(9), 85);
        x.trim(84);
        due(x.feed(0, 0, 0), 96);
        x.trim(1);
        due(x.feed(0, 0, 0), 13);
        of(25, "FULL leaves the bytes as they were");
        CreweChange y = withStops(5);
        Edge.feed(y, "walk 7" + times(90, " "));
        due(y.count(9), 96);
        due(y.feed(0x3f3f3f3f, 0x3f3f3f3f, 0x3f3f3f3f), FULL);
        due(y.text(), 0);
        due(y.walk(0), 7);
        of(25, "the highest byte of each number first");
        CreweChange z = withStops(5);
        due(z.feed('w' << 24 | 'a' << 16 | 'l' << 8 | 'k', ' ' << 24 | '4' << 16 | '2' << 8 | '+', '1' << 24 | '-' << 16 | '2' << 8 | ' '), 12);
        due(z.text(), 0);
        due(z.walk(0), 41);
        of(25, "bytes of 128 and more are signs: numbers may be below 0");
        int[] heads = {-1, LEAST, 0x80202020, 0xff202020};
        for (int head : heads) {
            z.feed('w' << 24 | 'a' << 16 | 'l' << 8 | 'k', '1' << 24, head);
            z.trim(4);
            z.feed(' ' << 24 | '1' << 16 | ' ' << 8 | ' ', head, 0x20202020);
            due(z.text(), -108);
        }
        of(25, "behind the bytes that are there");
        Edge.feed(z, "walk");
        Edge.feed(z, " 3");
        Edge.feed(z, "3");
        due(z.count(9), 7);
        due(z.text(), 1);
        due(z.walk(0), 33);
    }

    private static void trim() {
        of(26, "n 0 .. as many as it has");
        CreweChange x = new CreweChange();
        due(x.trim(0), 0);
        due(x.trim(1), BAD);
        x.feed(1, 2, 3);
        due(x.trim(13), BAD);
        due(x.trim(12), 12);
        due(x.trim(11), 11);
        due(x.trim(12), BAD);
        due(x.trim(0), 0);
        due(x.trim(1), BAD);
        refused(EdgesTextsTest::fullTape, BAD, y -> y.trim(97), y -> y.trim(-1), y -> y.trim(LEAST), y -> y.trim(MOST));
        due(fullTape().trim(96), 96);
        of(26, "its first n bytes");
        CreweChange y = withStops(5);
        Edge.feed(y, "walk 123456");
        due(y.trim(7), 7);
        due(y.text(), 0);
        due(y.walk(0), 12);
        of(26, "what comes next comes behind them");
        Edge.feed(y, "walk 123456");
        due(y.trim(5), 5);
        Edge.feed(y, "77");
        due(y.text(), 1);
        due(y.walk(0), 77);
    }

    private static void text() {
        of(27, "14 at most, numbered from 0");
        CreweChange x = withStops(5);
        for (int i = 0; i < 14; i++) due(text(x, "walk " + i), i);
        due(x.count(2), 14);
        due(text(x, "walk 50"), FULL);
        due(x.count(2), 14);
        due(x.walk(0), 13);
        due(x.why(2), 13);
        of(27, "FULL changes nothing but the tape");
        CreweChange full = fourteenTexts();
        due(text(full, "tide 5"), FULL);
        same(full, fourteenTexts());
        of(27, "FAULT ahead of FULL");
        CreweChange both = fourteenTexts();
        due(text(both, "tide ?"), -105);
        same(both, fourteenTexts());
        of(27, "FAULT changes nothing but the tape");
        CreweChange fault = crewe();
        fault.trim(0);
        due(text(fault, "tide 5 5"), -107);
        CreweChange without = crewe();
        without.trim(0);
        same(fault, without);
        of(27, "room again after back()");
        CreweChange y = withStops(5);
        text(y, "walk 1");
        y.keep();
        for (int i = 1; i < 14; i++) text(y, "walk 2");
        due(text(y, "walk 2"), FULL);
        y.back();
        due(text(y, "walk 3"), 1);
        due(y.walk(0), 3);
    }

    private static void textUsesUp() {
        of(27, "an act that reads THE TAPE uses it up, whatever it answers");
        CreweChange x = fourteenTexts();
        Edge.feed(x, "walk 1");
        due(x.text(), FULL);
        due(x.count(9), 0);
        Edge.feed(x, "walk");
        due(x.text(), -104);
        due(x.count(9), 0);
        CreweChange y = new CreweChange();
        Edge.feed(y, "walk 1");
        due(y.text(), 0);
        due(y.count(9), 0);
        due(y.text(), -100);
        due(y.feed(0, 0, 0), 12);
    }

    /** Each row: a text, and the place of its fault. */
    private static void faults(Object[][] rows) {
        for (Object[] row : rows) {
            CreweChange x = new CreweChange();
            due(text(x, (String) row[0]), -100 - (Integer) row[1]);
            due(x.count(2), 0);
        }
    }

    private static void taken(String... texts) {
        for (String text : texts) due(text(new CreweChange(), text), 0);
    }

    private static void words() {
        of(27, "a word right behind another one needs a blank");
        taken("waits 1", "walk  w", "tide(n)", "tide!n", "walk(w)+1", "waits n<k", "waits 1+k", "waits(1)");
        faults(new Object[][] {{"waits1", 5}, {"walk1", 4}, {"waits 1k", 7}, {"waits k1", 7}, {"waits 1+2k", 9}, {"waits 12k", 8}, {"tide n2", 6}});
        of(27, "a row of letters, as long as it goes");
        faults(new Object[][] {{"waitsk", 0}, {"tiden", 0}, {"waits kn", 6}, {"waits 1+dd", 8}, {"walkwalk w", 0}});
        of(27, "letters a .. z, digits, else a sign by itself");
        taken("walk w", "walk 0", "walk 9");
        faults(new Object[][] {{"walk `", 5}, {"walk {", 5}, {"walk :", 5}, {"walk W", 5}, {"Walk w", 0}, {"walk 1.5", 6}, {"walk 1,", 6}, {"walk_w", 4}, {"walk 1@", 6}, {"walk z", 5}, {"walk a", 5}});
        of(27, "blanks between words and signs, and at the ends; byte 32 alone");
        taken("  waits   (  k  +  1  )  ", " tide n", "tide n ", "walk w - 1");
        faults(new Object[][] {{"tide\tn", 4}, {"tide n\t", 6}, {"tide n\n", 6}, {"tide n\u0000", 6}, {"\u0000tide n", 0}, {"tide n\u00a0", 6}, {"tide n\u001f", 6}, {"tide n!", 6}});
        of(27, "a blank does not make two digits one NUMBER");
        faults(new Object[][] {{"tide 1 2", 7}, {"tide n n", 7}, {"wa lk w", 0}});
    }

    private static void keys() {
        of(27, "KEY: waits, tide, walk, and no other word");
        faults(new Object[][] {{"wait k", 0}, {"waitz k", 0}, {"xaits k", 0}, {"xide n", 0}, {"xalk w", 0}, {"waxts k", 0}, {"tid n", 0}, {"tidf n", 0}, {"wal w", 0}, {"walks w", 0}, {"w w", 0}, {"k k", 0}, {"1 k", 0}, {"(waits k)", 0}, {"!waits k", 0}, {"  walks w", 2}, {"+", 0}});
        of(27, "KEY comes once");
        faults(new Object[][] {{"waits waits k", 6}, {"tide tide", 5}, {"walk w walk", 7}, {"walk (walk)", 6}});
        taken("waits k", "tide n", "walk w");
    }

    private static void pieces() {
        of(27, "NUMBER: 1 to 4 digits");
        taken("walk 0", "walk 12", "walk 123", "walk 9999", "walk 0000");
        faults(new Object[][] {{"walk 12345", 5}, {"walk 00000", 5}, {"walk 1+12345", 7}, {"walk 99999+", 5}, {"walk " + times(91, "1"), 5}});
        of(27, "no sign of a NUMBER");
        faults(new Object[][] {{"walk -1", 5}, {"walk +1", 5}, {"walk 1--1", 7}, {"walk 1+-1", 7}, {"walk (-1)", 6}});
        of(27, "a PIECE where one is due");
        faults(new Object[][] {{"walk )", 5}, {"walk ()", 6}, {"walk *1", 5}, {"walk 1**2", 7}, {"walk 1+)", 7}, {"walk &1", 5}, {"walk 1||2", 7}, {"walk <1", 5}, {"walk 1<<2", 7}, {"walk !)", 6}, {"walk !+", 6}});
        of(27, "a sign, or the end, behind a PIECE");
        faults(new Object[][] {{"walk 1(2)", 6}, {"walk (1)2", 8}, {"walk (1)(2)", 8}, {"walk (1)w", 8}, {"walk 1!2", 6}, {"walk w!", 6}, {"walk (1)!", 8}, {"walk 1)", 6}, {"walk (1))", 8}, {"walk 1%2", 6}});
        of(27, "TEST: one sign of tests at most, at each level");
        taken("walk 1<2", "walk (1<2)<3", "walk 1<(2=3)", "walk 1<2&2>1|3=3", "walk (1<2)=(3>4)", "walk !(1<2)<3");
        faults(new Object[][] {{"walk 1<2<3", 8}, {"walk 1=2=3", 8}, {"walk 1>2<3", 8}, {"walk 1<2+3=4", 10}, {"walk (1<2>3)", 9}, {"walk 0|1<2<3", 10}});
    }

    private static void ends() {
        of(27, "the end, if it comes too soon: the place behind the last byte");
        faults(new Object[][] {{"", 0}, {" ", 1}, {"      ", 6}, {"walk", 4}, {"walk ", 5}, {"walk   ", 7}, {"walk w+", 7}, {"walk w+ ", 8}, {"walk (", 6}, {"walk (w", 7}, {"walk (w ", 8}, {"walk !", 6}, {"walk w<", 7}, {"walk ((w)", 9}});
        of(27, "96 bytes: the last place is 95, the end 96");
        faults(new Object[][] {{times(96, " "), 96}, {"walk" + times(92, " "), 96}, {"walk " + times(45, "1+") + "+", 95}, {"walk  " + times(45, "1+"), 96}, {"walk w" + times(89, " ") + "?", 95}});
        taken("walk w" + times(90, " "), times(90, " ") + "walk w", "walk w" + times(45, "+1"), "tide n" + times(44, "*n") + " ");
        of(27, "the first word or sign with which no TEXT goes on, not a later one");
        faults(new Object[][] {{"walk k + ? 12345", 5}, {"wolk ?", 0}, {"walk w ? (", 7}, {"walk (w ? ", 8}});
    }

    private static void signs() {
        of(27, "every sign of E, and no other byte");
        CreweChange x = new CreweChange();
        String joins = "|&<=>+-*/";
        for (int sign = 0; sign < 256; sign++) {
            String text = "walk 1" + (char) sign + "(2)";
            boolean word = sign >= 'a' && sign <= 'z';
            boolean digit = sign >= '0' && sign <= '9';
            int fault = sign == ' ' || digit ? 7 : 6;
            x = new CreweChange();
            due(text(x, text), !word && joins.indexOf(sign) >= 0 ? 0 : -100 - fault);
        }
        due(x.count(9), 0);
    }

    private static void open() {
        of(27, "eight ( open within others; the ninth is a FAULT");
        taken("walk " + times(8, "(") + "7" + times(8, ")"));
        faults(new Object[][] {{"walk " + times(9, "(") + "7" + times(9, ")"), 13}, {"walk " + times(9, "("), 13}, {"walk " + times(8, "("), 13}, {"walk " + times(8, "( ") + "(", 21}});
        of(27, "those that are closed do not count");
        taken("walk " + times(8, "(") + "1" + times(8, ")") + "+" + times(8, "(") + "1" + times(8, ")"), "walk " + times(7, "(") + "(1)+(1)" + times(7, ")"), "walk (1)" + times(20, "+(1)"));
        faults(new Object[][] {{"walk " + times(7, "(") + "(1)+((1))" + times(7, ")"), 17}});
        of(27, "! do not count as (");
        taken("walk " + times(8, "!(") + "1" + times(8, ")"), "walk " + times(8, "(") + times(8, "!") + "1" + times(8, ")"));
    }

    private static void nots() {
        of(27, "eight ! open within others; the ninth is a FAULT");
        taken("walk " + times(8, "!") + "7");
        faults(new Object[][] {{"walk " + times(9, "!") + "7", 13}, {"walk " + times(9, "!"), 13}, {"walk " + times(8, "!"), 13}, {"walk " + times(8, "! ") + "!", 21}});
        of(27, "those whose PIECE is done do not count");
        taken("walk " + times(8, "!") + "1+" + times(8, "!") + "1", "walk (" + times(8, "!") + "1)*" + times(8, "!") + "1", "walk !1" + times(20, "+!1"));
        of(27, "within ( they are open still");
        taken("walk !!!!(!!!!1)", "walk !!!!(!!!!1+!!!!1)", "walk !!!!!!!!(1)");
        faults(new Object[][] {{"walk !!!!(!!!!!1)", 14}, {"walk !!!!!!!!(!1)", 14}, {"walk " + times(8, "!(") + "!1", 21}, {"walk !!!!(1+!!!!!1)", 16}});
        of(27, "( do not count as !");
        faults(new Object[][] {{"walk " + times(8, "!(") + "(1", 21}});
    }

    private static void names() {
        of(27, "NAMES: of waits k n d, of tide n d, of walk s w d");
        String[] keys = {"waits", "tide", "walk"};
        String[] names = {"knd", "nd", "swd"};
        for (int key = 0; key < 3; key++) {
            for (char name = 'a'; name <= 'z'; name++) {
                CreweChange x = new CreweChange();
                boolean known = names[key].indexOf(name) >= 0;
                due(text(x, keys[key] + " " + name), known ? 0 : -100 - keys[key].length() - 1);
                due(x.count(2), known ? 1 : 0);
            }
        }
    }

    /** Each row: what walk is told, and what it gives. */
    private static void worth(Object[][] rows) {
        for (Object[] row : rows) {
            CreweChange x = withStops(0);
            due(text(x, "walk " + row[0]), 0);
            due(x.walk(0), (Integer) row[1]);
        }
    }

    private static void worths() {
        of(27, "the loosest first: | & tests + - * / !");
        worth(new Object[][] {{"1|0&0", 1}, {"0&0|1", 1}, {"0&1<2", 0}, {"1<2&0", 0}, {"3<1+3", 1}, {"2+3*4", 14}, {"2*3+4", 10}, {"20-6/2", 17}, {"!0*5", 5}, {"!1+5", 5}, {"!0=1", 1}});
        of(27, "from left to right");
        worth(new Object[][] {{"50-20-5", 25}, {"50-20+5", 35}, {"80/4/2", 10}, {"80/4*2", 40}, {"7*8/3", 18}, {"7/3*8", 16}});
        of(27, "/ cuts towards 0; / is 0 by 0");
        worth(new Object[][] {{"7/2", 3}, {"(0-7)/2+9", 6}, {"7/(0-2)+9", 6}, {"(0-7)/(0-2)", 3}, {"1/2", 0}, {"5/0", 0}, {"0/0+3", 3}, {"9/(1-1)+2", 2}, {"1/0=0", 1}});
        of(27, "tests, & | ! give 1 or 0; what is not 0 is true");
        worth(new Object[][] {{"1<2", 1}, {"2<2", 0}, {"3<2", 0}, {"2=2", 1}, {"2=3", 0}, {"3>2", 1}, {"2>2", 0}, {"1>2", 0}, {"7&9", 1}, {"7&0", 0}, {"0&7", 0}, {"0&0", 0}, {"7|9", 1}, {"7|0", 1}, {"0|7", 1}, {"0|0", 0},
            {"!0", 1}, {"!1", 0}, {"!7", 0}, {"!!7", 1}, {"(0-1)&(0-2)", 1}, {"!(0-1)", 0}, {"(0-1)|0", 1}, {"2&1=1", 1}, {"0-5<0-4", 1}, {"0-5>0-4", 0}});
        of(27, "what is worked out by both sides: no side stops the other");
        worth(new Object[][] {{"0&5/0", 0}, {"1|5/0", 1}, {"5/0|2", 1}});
        of(27, "NUMBERS of 4 digits, with 0 ahead");
        worth(new Object[][] {{"0042", 42}, {"0099", 99}, {"0100", 99}, {"9999-9998", 1}});
    }

    private static void wraps() {
        of(27, "ints wrap");
        String least = "8192*8192*32";
        worth(new Object[][] {{least + "<0", 1}, {least + "-1>0", 1}, {"0-(" + least + ")<0", 1}, {"(" + least + ")/(0-1)<0", 1}, {"(" + least + ")*(0-1)<0", 1}, {"8192*8192*64+5", 5}, {"(" + least + "-1)+(" + least + "-1)+7", 5},
            {"9999*9999*45", 99}, {"9999*9999*30", 0}, {"9999*9999*9999*9999=9999*9999*9999*9999", 1}});
    }

    private static void textTold() {
        of(28, "a TEXT that there is, what 0, 1");
        CreweChange x = fourteenTexts();
        due(x.textTold(0, 0), 2);
        due(x.textTold(13, 1), 1);
        due(x.textTold(14, 0), BAD);
        due(x.textTold(-1, 0), BAD);
        due(x.textTold(0, 2), BAD);
        due(x.textTold(0, -1), BAD);
        due(new CreweChange().textTold(0, 0), BAD);
        refused(Edge::crewe, BAD, y -> y.textTold(1, 0), y -> y.textTold(-1, 0), y -> y.textTold(0, 2), y -> y.textTold(0, -1), y -> y.textTold(MOST, 0), y -> y.textTold(0, LEAST));
        of(28, "a TEXT that is gone by back() is none");
        CreweChange gone = withStops(5);
        gone.keep();
        text(gone, "walk 1");
        gone.back();
        due(gone.textTold(0, 0), BAD);
        of(28, "KEY: 0 waits, 1 tide, 2 walk");
        String[] keys = {"waits", "tide", "walk"};
        for (int key = 0; key < 3; key++) {
            CreweChange y = new CreweChange();
            text(y, keys[key] + " 1");
            due(y.textTold(0, 0), key);
        }
        of(28, "NUMBERS and NAMES: one at least, 46 at most; signs do not count");
        Object[][] rows = {{"walk 1", 1}, {"walk !!(w)", 1}, {"walk w+w", 2}, {"walk 1234", 1}, {"walk 12+w*(34-s)", 4}, {"walk w" + times(45, "+1"), 46}, {"walk d" + times(45, "|s"), 46}};
        for (Object[] row : rows) {
            CreweChange y = new CreweChange();
            text(y, (String) row[0]);
            due(y.textTold(0, 1), (Integer) row[1]);
        }
    }

    private static void why() {
        of(29, "a KEY 0 .. 2");
        refused(Edge::crewe, BAD, y -> y.why(-1), y -> y.why(3), y -> y.why(LEAST), y -> y.why(MOST));
        of(29, "NONE: none was told");
        CreweChange x = withStops(5);
        for (int key = 0; key < 3; key++) due(x.why(key), NONE);
        text(x, "tide 1");
        due(x.why(0), NONE);
        due(x.why(1), 0);
        due(x.why(2), NONE);
        of(29, "of a KEY that TEXT counts that was told last");
        text(x, "walk 1");
        text(x, "waits 1");
        text(x, "walk 2");
        due(x.why(0), 2);
        due(x.why(1), 0);
        due(x.why(2), 3);
        due(x.walk(0), 2);
        of(29, "one that is refused was not told");
        text(x, "walk 3+");
        due(x.why(2), 3);
        due(x.walk(0), 2);
        of(29, "the last of fourteen, though one more is FULL");
        CreweChange y = fourteenTexts();
        due(y.why(2), 13);
        text(y, "waits 1");
        due(y.why(0), NONE);
        due(y.why(2), 13);
        of(29, "as it was by back()");
        x.keep();
        text(x, "walk 9");
        due(x.why(2), 4);
        x.back();
        due(x.why(2), 3);
        due(x.walk(0), 2);
    }
}
