/** What the document tells of texts, clause by clause. */
public final class TextsTest extends Sentences {
    public static void main(String[] args) {
        TextsTest test = new TextsTest();
        test.typedText();
        test.plainTexts();
        test.readTexts();
        test.refusedTexts();
        test.end("Texts");
    }

    private void typedText() {
        section("Texts");
        sentence("There is one text, empty at first");
        dueThrow(NO_SLOT, () -> x.signAt(0));
        due(x.erase(), 0);
        dueThrow(NO_NUMBER, () -> x.read(0));

        sentence("of at most 24 signs");
        for (int count = 1; count <= 24; count++) {
            due(x.type('7'), count);
        }
        dueThrow(IllegalStateException.class, () -> x.type('7'));
        due(x.erase(), 24);
        due(x.type('7'), 1);

        sentence("32 to 126");
        for (char sign = 0; sign < 300; sign++) {
            char typed = sign;
            fresh();
            if (sign >= 32 && sign <= 126) {
                due(x.type(sign), 1);
                due(x.signAt(0), sign);
            } else {
                dueThrow(WRONG, () -> x.type(typed));
            }
        }
        dueThrow(WRONG, () -> x.type((char) 65535));

        sentence("as it is typed.");
        type("ab");
        x.put(0, -MOST, -9);
        dueTold(0, "-999999999999999999000000000");
        dueThrow(IllegalStateException.class, () -> x.type('7'));
        due(x.erase(), 28);
    }

    private void plainTexts() {
        sentence("A number is told plain: its digits without their sign, a row");
        dueTold(0, 0, "0");
        dueTold(7, 0, "7");
        dueTold(1234567890, 0, "1234567890");
        dueTold(MOST, 0, "999999999999999999");
        dueTold(100000000000000000L, 0, "100000000000000000");

        sentence("with a scale above 0 a '.' ahead of so many last digits");
        dueTold(125, 1, "12.5");
        dueTold(125, 2, "1.25");
        dueTold(-1250, 1, "-125.0");
        dueTold(MOST, 9, "999999999.999999999");

        sentence("zeros ahead of all where they are too few, one '0' ahead of the point at least");
        dueTold(125, 3, "0.125");
        dueTold(125, 4, "0.0125");
        dueTold(-5, 9, "-0.000000005");
        dueTold(0, 1, "0.0");
        dueTold(0, 9, "0.000000000");
        dueTold(-999999999, 9, "-0.999999999");
        dueTold(1000000000, 9, "1.000000000");

        sentence("with a scale below 0 as many zeros behind");
        dueTold(7, -1, "70");
        dueTold(-7, -9, "-7000000000");
        dueTold(MOST, -9, "999999999999999999000000000");

        sentence("none behind 0");
        dueTold(0, -1, "0");
        dueTold(0, -9, "0");

        sentence("'-' stands ahead of all if it is below 0.");
        dueTold(-1, 0, "-1");
        dueTold(-1, 1, "-0.1");
        dueTold(-1, -1, "-10");
        dueTold(-MOST, -9, "-999999999999999999000000000");
        dueTold(0, 2, "0.00");
    }

    private void dueTold(long digits, int scale, String want) {
        fresh(digits, scale);
        dueTold(0, want);
    }

    private void dueRead(String text, long digits, int scale) {
        fresh();
        type(text);
        dueNumber(x.read(3), 3, digits, scale);
    }

    private void dueUnread(Class<?> want, String... texts) {
        for (String text : texts) {
            fresh();
            type(text);
            dueThrow(want, () -> x.read(3));
        }
    }

    private void readTexts() {
        sentence("A text is a number if it is perhaps '+' or '-'");
        dueRead("+1", 1, 0);
        dueRead("-1", -1, 0);
        dueRead("1", 1, 0);
        dueRead("-0", 0, 0);
        dueUnread(NO_NUMBER, "+", "-", "--1", "++1", "+-1", "-+1", "1+", "1-", " 1", "1 ", "*1", ",1", "1+1");

        sentence("digits, one at least");
        dueRead("0123456789", 123456789, 0);
        dueUnread(NO_NUMBER, "", ".", "+.", "-.", "e", "E5", "-e5", ".e5", "+.E1", "a", "1a", "a1", "/1", ":1", "1_0", "1,0");

        sentence("perhaps with one '.' ahead of them, among them or behind them");
        dueRead(".5", 5, 1);
        dueRead("-.5", -5, 1);
        dueRead("1.5", 15, 1);
        dueRead("5.", 5, 0);
        dueRead("+5.e1", 5, -1);
        dueUnread(NO_NUMBER, "1..5", "1.2.3", ".1.", "..1", "1..", ".-5", "1.-5");

        sentence("then perhaps 'E' or 'e', perhaps '+' or '-', and digits, one at least");
        dueRead("1E1", 1, -1);
        dueRead("1e1", 1, -1);
        dueRead("1e+1", 1, -1);
        dueRead("1E-1", 1, 1);
        dueRead("1e09", 1, -9);
        dueUnread(NO_NUMBER, "1e", "1E+", "1e-", "1e--1", "1e+-1", "1ee1", "1e1e", "1e1E1", "1e1.5", "1e.", "1e1 ", "1e 1", "1ea",
                "1e/", "1e:", "1f1", "1D");

        sentence("the digits as a whole number");
        dueRead("000", 0, 0);
        dueRead("-00120", -120, 0);
        dueRead("999999999999999999", MOST, 0);
        dueRead("-999999999999999999", -MOST, 0);
        dueRead("00.50", 50, 2);

        sentence("the scale as many as stand behind the point less what stands behind 'E'.");
        dueRead("1.50", 150, 2);
        dueRead("1.50E+3", 150, -1);
        dueRead("1.50E-3", 150, 5);
        dueRead("0.000000001", 1, 9);
        dueRead("0.0000000001E1", 1, 9);
        dueRead("0.0000000001E+019", 1, -9);
        dueRead("1E-9", 1, 9);
        dueRead("1E+9", 1, -9);
        dueRead("-0.00e0", 0, 2);
        dueUnread(REFUSED, "1E10", "1E-10", "0.0000000001", "1e9999", "1e-999", "0e10");
    }

    private void refusedTexts() {
        sentence("It is refused ahead of that if it has more than 18 digits ahead of the first 'E' or 'e'");
        dueRead("123456789012345678E0", 123456789012345678L, 0);
        dueRead("1.23456789012345678e9", 123456789012345678L, 8);
        dueUnread(REFUSED, "1234567890123456789E0", "0000000000000000001e1", "1.234567890123456789e9");
        dueUnread(REFUSED, "x1234567890123456789e1", "1.234567890123456789ex", "1234567890123456789e", "1-234567890123456789E+");
        dueUnread(NO_NUMBER, "x123456789012345678e1", "1.23456789012345678ex", "12345678901234567e89e1", "1e123E",
                "1E1e2");

        sentence("or, without one, in all");
        dueRead("123456789012345678", 123456789012345678L, 0);
        dueRead("-123456789.012345678", -123456789012345678L, 9);
        dueUnread(REFUSED, "1234567890123456789", "0000000000000000000", "-0.123456789012345678", "x1234567890123456789",
                "1234567890.1234567890.1");
        dueUnread(NO_NUMBER, "x123456789012345678", "123456789012345678x", "1234567890.12345678.");
        fresh(-MOST, -1, 100000000000000000L, -1, 10000000000000000L, -1, MOST, 0, MOST, -9);
        for (int slot : new int[] {0, 1, 4}) {
            x.tell(slot);
            dueThrow(REFUSED, () -> x.read(7));
        }
        x.tell(2);
        dueNumber(x.read(7), 7, 100000000000000000L, 0);
        x.tell(3);
        dueNumber(x.read(7), 7, MOST, 0);

        sentence("or more than four signs behind that.");
        dueRead("1E+009", 1, -9);
        dueRead("1e-009", 1, 9);
        dueRead("1e0009", 1, -9);
        dueRead("1E0000", 1, 0);
        dueUnread(REFUSED, "1E00009", "1e+0009", "1E-0000", "1e12345", "E12345", "e+-+-+", "xEabcde", "1ex1234", "eeeeee",
                "1e1E123");
        dueUnread(NO_NUMBER, "E1234", "xEabcd", "1e+-+-", "eeeee", "1e1E12");
    }
}
