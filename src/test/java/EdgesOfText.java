import java.util.function.Supplier;

/** The sentences of "## Terms" about the text, and Promises 26 to 28. */
final class EdgesOfText {
    private static final int NO_ERROR = -1;

    private EdgesOfText() {
    }

    static void run() {
        Sentences.section("Terms");
        Sentences.saysNothingToTest("Text.");
        Sentences.says("The text has at most 100 bytes.", EdgesOfText::hundredBytes);
        Sentences.says("It is a sequence of orders to the planner, each terminated by a semicolon",
                EdgesOfText::semicolons);
        Sentences.says("\"c\", an order digit 0 to 7", EdgesOfText::orderDigit);
        Sentences.says("a week of one or two digits, 0 to 19, a colon", EdgesOfText::weekOfChange);
        Sentences.says("and an hours digit 0 to 7", EdgesOfText::hoursDigit);
        Sentences.says("to change the hours of an order from a week on", EdgesOfText::changes);
        Sentences.says("\"p\" and a week of one or two digits, to plan it", EdgesOfText::plans);
        Sentences.says("\"h\" or \"m\" and a meeting number of one or two digits, to hold it or to miss it",
                EdgesOfText::tells);
        Sentences.says("\"w\", to end the week", EdgesOfText::ends);
        Sentences.says("There are no spaces", EdgesOfText::spaces);
        Sentences.says("there may be no orders", EdgesOfText::noOrders);
        Sentences.says("Numbers can have zeros in front.", EdgesOfText::zeros);
        Sentences.says("The syntax error position is the index of the first byte that cannot stand where it stands",
                EdgesOfText::allBytes);
        Sentences.says("(a digit too many, too)", EdgesOfText::digitTooMany);
        Sentences.says("or the length of the text if the text ends too early", EdgesOfText::endsTooEarly);
        Sentences.says("For a number that is out of its range it is the index of its first digit",
                EdgesOfText::outOfRange);
        Sentences.says("found when a byte that is no digit, whichever it is", EdgesOfText::foundByAnyByte);
        Sentences.says("or the end of the text, follows it", EdgesOfText::foundByTheEnd);
    }

    private static void hundredBytes() {
        Check.same("the byte 100", withBytes(99).append(0), 100);
        Twins.refused("the byte 101", Twins.STATE, () -> withBytes(100), x -> x.append(0));
        MeetingOrders x = withBytes(100);
        Check.same("the length", x.clearText(), 100);
        Check.same("there is room again", x.append(0), 1);
        MeetingOrders y = new MeetingOrders();
        Made.write(y, "w;".repeat(19) + "p19;".repeat(15) + "w;");
        Check.same("all 100 are read, and the last order is refused", y.carryOut(), 34);
    }

    private static MeetingOrders withBytes(int count) {
        MeetingOrders x = new MeetingOrders();
        for (int i = 0; i < count; i++) {
            x.append("w;".charAt(i % 2));
        }
        return x;
    }

    /** Syntax does not depend on what there is, so that an empty object tells the position; NO_ERROR if there is none. */
    private static void errorIs(String text, int due) {
        int answer = Made.write(new MeetingOrders(), text).carryOut();
        Check.same("the error position of " + text, answer >= 0 ? NO_ERROR : -10 - answer, due);
    }

    private static void semicolons() {
        for (String order : new String[] {"c00:0", "c719:7", "p0", "p19", "h0", "h99", "m0", "m99", "w"}) {
            errorIs(order + ";", NO_ERROR);
            errorIs(order, order.length());
            errorIs(order + order + ";", order.length());
            errorIs(order + ":", order.length());
            errorIs(order + ";;", order.length() + 1);
            errorIs(";" + order + ";", 0);
            errorIs(order + ";" + order + ";", NO_ERROR);
            errorIs(order + ";" + order, 2 * order.length() + 1);
        }
        errorIs(";", 0);
    }

    private static void orderDigit() {
        for (int digit = 0; digit < 10; digit++) {
            errorIs("c" + digit + "1:3;", digit < 8 ? NO_ERROR : 1);
            errorIs("c" + digit + "19:3;", digit < 8 ? NO_ERROR : 1);
            errorIs("w;c" + digit, digit < 8 ? 4 : 3);
            errorIs("c" + digit + "20:3;", digit < 8 ? 2 : 1);
        }
        for (int order = 0; order < 8; order++) {
            MeetingOrders x = Made.write(Made.roomy(8, 1), "c" + order + "5:6;");
            Check.same("carried out", x.carryOut(), 1);
            for (int other = 0; other < 8; other++) {
                Check.same("hours of " + other, x.hours(other, 5), other == order ? 6 : 1);
            }
        }
    }

    private static void weekOfChange() {
        for (int week = 0; week < 100; week++) {
            errorIs("c0" + week + ":3;", week < 20 ? NO_ERROR : 2);
            errorIs("p1;c7" + week + ":3;", week < 20 ? NO_ERROR : 5);
            errorIs("c0" + week + ";", week < 20 ? 2 + (week < 10 ? 1 : 2) : 2);
        }
        errorIs("c0:3;", 2);
        errorIs("c01;3;", 3);
        errorIs("c013;", 4);
        errorIs("c01::3;", 4);
    }

    private static void hoursDigit() {
        for (int digit = 0; digit < 10; digit++) {
            errorIs("c01:" + digit + ";", digit < 8 ? NO_ERROR : 4);
            errorIs("c019:" + digit + ";", digit < 8 ? NO_ERROR : 5);
            errorIs("c01:" + digit, digit < 8 ? 5 : 4);
            errorIs("c01:0" + digit + ";", 5);
        }
        errorIs("c01:;", 4);
        for (int hours = 0; hours < 8; hours++) {
            MeetingOrders x = Made.write(Made.small(), "c01:" + hours + ";");
            x.carryOut();
            Check.same("the hours", x.hours(0, 1), hours);
        }
    }

    private static void changes() {
        for (int week = 2; week < 20; week++) {
            MeetingOrders x = Made.write(Made.atWeek(Made.small(), 2), "c0" + week + ":5;");
            Check.same("carried out for " + week, x.carryOut(), 1);
            for (int other = 0; other < 20; other++) {
                Check.same("week " + other + ", changed from " + week, x.hours(0, other), other < week ? 2 : 5);
            }
        }
    }

    private static void plans() {
        for (int week = 0; week < 100; week++) {
            errorIs("p" + week + ";", week < 20 ? NO_ERROR : 1);
            errorIs("w;p" + week + ";w;", week < 20 ? NO_ERROR : 3);
        }
        errorIs("p;", 1);
        for (int week = 0; week < 20; week++) {
            MeetingOrders x = Made.write(Made.small(), "p" + week + ";");
            Check.same("carried out for " + week, x.carryOut(), 1);
            Check.same("the week that is planned", x.meeting(0, 1), week);
            Check.same("all that is owed is planned", x.value(3), Math.min(7, 2 * week + 2));
        }
    }

    /** So many meetings were planned and cancelled, so that the next one has this number; it is of the present week. */
    private static MeetingOrders withNumber(int number) {
        MeetingOrders x = Made.small();
        for (int i = 0; i < number; i++) {
            x.plan(0, 0, 0, 0, 0);
            x.cancel(i);
        }
        x.plan(0, 0, 0, 0, 0);
        return x;
    }

    private static void tells() {
        for (int number = 0; number < 100; number++) {
            errorIs("h" + number + ";", NO_ERROR);
            errorIs("w;m" + number + ";", NO_ERROR);
        }
        errorIs("h;", 1);
        errorIs("m;", 1);
        errorIs("h100;", 3);
        errorIs("m100;", 3);
        for (int number : new int[] {0, 1, 9, 10, 11, 59, 60, 98, 99}) {
            for (String sign : new String[] {"h", "m"}) {
                MeetingOrders x = Made.write(withNumber(number), sign + number + ";");
                Check.same("carried out: " + sign + number, x.carryOut(), 1);
                Check.same("told: " + sign + number, x.meeting(number, 5), sign.equals("h") ? 1 : 2);
            }
        }
        MeetingOrders x = Made.write(withNumber(100), "h10;");
        Check.same("the meeting 10 is not the meeting 100", x.carryOut(), 0);
        Check.same("the meeting 100 is planned still", x.meeting(100, 5), 0);
    }

    private static void ends() {
        for (int week = 0; week < 19; week++) {
            MeetingOrders x = Made.write(Made.atWeek(Made.small(), week), "w;");
            x.planWeek(week);
            Check.same("carried out in " + week, x.carryOut(), 1);
            Check.same("the present week", x.value(4), week + 1);
            Check.same("missed by it", x.value(7), Math.min(7, 2 * week + 2));
            Check.same("the first one is missed", x.meeting(0, 5), 2);
        }
        errorIs("w0;", 1);
        errorIs("W;", 0);
        MeetingOrders y = Made.write(new MeetingOrders(), "w;".repeat(20));
        Check.same("one more than there are", y.carryOut(), 19);
        Check.same("the last week", y.value(4), 19);
    }

    private static void spaces() {
        String text = "c012:3;p4;p19;h5;m66;w;";
        errorIs(text, NO_ERROR);
        for (int place = 0; place <= text.length(); place++) {
            errorIs(text.substring(0, place) + " " + text.substring(place), place);
        }
        errorIs(" ", 0);
        errorIs("\n", 0);
        errorIs("w;\n", 2);
    }

    private static void noOrders() {
        MeetingOrders x = new MeetingOrders();
        Check.same("a new object", x.carryOut(), 0);
        Check.same("one state is saved", x.undo(), 0);
        Made.write(x, "w;");
        x.clearText();
        Check.same("an emptied text", x.carryOut(), 0);
        Check.same("nothing of it is carried out", x.value(4), 0);
    }

    private static void zeros() {
        for (int n = 0; n < 10; n++) {
            errorIs("c00" + n + ":0;", NO_ERROR);
            errorIs("p0" + n + ";", NO_ERROR);
            errorIs("h0" + n + ";", NO_ERROR);
            errorIs("m0" + n + ";", NO_ERROR);
            errorIs("c000" + n + ":0;", 4);
            errorIs("p00" + n + ";", 3);
            errorIs("h00" + n + ";", 3);
            errorIs("m00" + n + ";", 3);
        }
        MeetingOrders x = Made.write(Made.small(), "c007:4;p00;h00;m01;p09;");
        Check.same("carried out", x.carryOut(), 5);
        Check.same("the week 7", x.hours(0, 7), 4);
        Check.same("the week 6", x.hours(0, 6), 2);
        Check.same("held", x.meeting(0, 5), 1);
        Check.same("missed", x.meeting(1, 5), 2);
        Check.same("the week 9", x.meeting(2, 1), 9);
    }

    /** What stands already, and the bytes that can stand behind it. */
    private static final String[][] STANDS = {
        {"", "cphmw"}, {"w;", "cphmw"}, {"p1;w;", "cphmw"},
        {"c", "01234567"}, {"c0", "0123456789"}, {"c7", "0123456789"},
        {"c00", "0123456789:"}, {"c01", "0123456789:"}, {"c02", "0123456789:"}, {"c09", "0123456789:"},
        {"c000", ":"}, {"c019", ":"}, {"c01:", "01234567"}, {"c019:", "01234567"}, {"c01:0", ";"}, {"c019:7", ";"},
        {"p", "0123456789"}, {"p0", "0123456789;"}, {"p1", "0123456789;"}, {"p2", "0123456789;"},
        {"p9", "0123456789;"}, {"p00", ";"}, {"p19", ";"},
        {"h", "0123456789"}, {"h0", "0123456789;"}, {"h9", "0123456789;"}, {"h00", ";"}, {"h99", ";"},
        {"m", "0123456789"}, {"m0", "0123456789;"}, {"m9", "0123456789;"}, {"m00", ";"}, {"m99", ";"},
        {"w", ";"}};

    private static void allBytes() {
        for (String[] row : STANDS) {
            for (int value = 0; value < 128; value++) {
                byteBehind(row[0], (char) value, row[1].indexOf(value) >= 0);
            }
        }
    }

    private static void byteBehind(String stands, char sign, boolean canStand) {
        String text = stands + sign;
        if (!canStand) {
            errorIs(text, stands.length());
            errorIs(text + "w;", stands.length());
        } else if (text.matches("(c[0-7]|p)[2-9][0-9]")) {
            errorIs(text, text.length() - 2);
        } else {
            errorIs(text, sign == ';' ? NO_ERROR : text.length());
        }
    }

    private static void digitTooMany() {
        for (int digit = 0; digit < 10; digit++) {
            for (String stands : new String[] {"c000", "c019", "c020", "c099", "c01:0", "c01:7", "p00", "p19", "p20",
                "p99", "h00", "h99", "m00", "m99", "w"}) {
                errorIs(stands + digit, stands.length());
                errorIs(stands + digit + ";", stands.length());
                errorIs(stands + digit + digit + ";", stands.length());
            }
        }
    }

    private static void endsTooEarly() {
        String text = "c012:3;p4;p19;h5;m66;w;";
        for (int length = 0; length <= text.length(); length++) {
            String start = text.substring(0, length);
            errorIs(start, start.isEmpty() || start.endsWith(";") ? NO_ERROR : length);
        }
        for (String end : new String[] {"w", "p1", "p19", "h99", "c", "c0", "c01", "c019:", "c019:7"}) {
            String full = "w;".repeat((100 - end.length()) / 2) + end;
            errorIs(full, full.length());
        }
        Check.same("a full text that ends too early", Made.write(new MeetingOrders(), "w;".repeat(49) + "p1").carryOut(),
                -110);
    }

    private static void outOfRange() {
        for (int number = 20; number < 100; number++) {
            errorIs("p" + number + ";", 1);
            errorIs("w;p" + number + ";", 3);
            errorIs("c0" + number + ":0;", 2);
            errorIs("w;c7" + number + ":0;", 4);
        }
        errorIs("p19;", NO_ERROR);
        errorIs("c019:0;", NO_ERROR);
        errorIs("p19;p20;p21;", 5);
    }

    private static void foundByAnyByte() {
        for (int value = 0; value < 128; value++) {
            boolean digit = value >= '0' && value <= '9';
            errorIs("p20" + (char) value, digit ? 3 : 1);
            errorIs("p99" + (char) value + ";", digit ? 3 : 1);
            errorIs("c020" + (char) value, digit ? 4 : 2);
            errorIs("c799" + (char) value + ";", digit ? 4 : 2);
        }
    }

    private static void foundByTheEnd() {
        errorIs("p20", 1);
        errorIs("p99", 1);
        errorIs("w;p20", 3);
        errorIs("c020", 2);
        errorIs("c799", 2);
        errorIs("p2", 2);
        errorIs("c02", 3);
        errorIs("p1", 2);
        errorIs("p19", 3);
        errorIs("c719", 4);
        errorIs("w;".repeat(48) + "c020", 98);
        errorIs("w;".repeat(47) + "p1;p20", 98);
    }

    /** Promises 26 to 28. */
    static void runPromises() {
        append();
        clearText();
        carryOut();
    }

    private static void append() {
        Supplier<MeetingOrders> busy = Made::busy;
        Sentences.section("Promise 26");
        Sentences.says("Appends a byte to the text.", () -> {
            MeetingOrders x = Made.small();
            x.append('w');
            x.append(';');
            Check.same("both bytes are read, in their order", x.carryOut(), 1);
            MeetingOrders y = Made.unsaved(new MeetingOrders());
            y.append('w');
            Check.throwsJust("it is not undoable", Twins.STATE, y::undo);
        });
        Sentences.says("`value`: the byte, 0 to 127",
                () -> Twins.range("value", busy, 0, 127, Twins.ARGUMENT, (x, value) -> x.append(value)));
        Sentences.says("Returns the new length of the text.", () -> {
            MeetingOrders x = new MeetingOrders();
            for (int length = 1; length <= 100; length++) {
                Check.same("the length", x.append(length), length);
            }
        });
        Sentences.says("Throws `IllegalArgumentException` if value is out of range", () -> {
            Twins.refused("-1", Twins.ARGUMENT, MeetingOrders::new, x -> x.append(-1));
            Twins.refused("128", Twins.ARGUMENT, MeetingOrders::new, x -> x.append(128));
            Twins.refused("-1 and a full text", Twins.ARGUMENT, () -> withBytes(100), x -> x.append(-1));
            Twins.refused("128 and a full text", Twins.ARGUMENT, () -> withBytes(100), x -> x.append(128));
        });
        Sentences.says("Throws `IllegalStateException` if the text has 100 bytes", () -> {
            Check.same("99 bytes", withBytes(99).append(127), 100);
            Twins.refused("100 bytes", Twins.STATE, () -> withBytes(100), x -> x.append('w'));
        });
    }

    private static void clearText() {
        Sentences.section("Promise 27");
        Sentences.says("Empties the text.", () -> {
            MeetingOrders x = Made.write(Made.small(), "w;w;");
            x.clearText();
            Check.same("nothing is carried out", x.carryOut(), 0);
            Check.same("no week is ended", x.value(4), 0);
            Check.same("the first byte again", x.append('w'), 1);
            Check.same("the old bytes are not read", x.carryOut(), -11);
            MeetingOrders y = Made.unsaved(new MeetingOrders());
            y.clearText();
            Check.throwsJust("it is not undoable", Twins.STATE, y::undo);
        });
        Sentences.says("Returns the length that it had.", () -> {
            for (int length : new int[] {0, 1, 2, 99, 100}) {
                MeetingOrders x = withBytes(length);
                Check.same("the length", x.clearText(), length);
                Check.same("the length then", x.clearText(), 0);
            }
        });
    }

    private static void carryOut() {
        Sentences.section("Promise 28");
        Sentences.says("Carries out the orders of the text, up to the first one that would throw an exception",
                EdgesOfText::upToTheFirst);
        Sentences.says("(that one is not carried out)", EdgesOfText::notCarriedOut);
        Sentences.says("The text stays as it is.", () -> {
            MeetingOrders x = Made.write(Made.small(), "w;w;");
            Check.same("once", x.carryOut(), 2);
            Check.same("twice", x.carryOut(), 2);
            Check.same("four weeks", x.value(4), 4);
            Check.same("the length", x.clearText(), 4);
        });
        Sentences.says("Undoable (one saved state, also if no order is carried out), if there is no syntax error.", () -> {
            for (String text : new String[] {"", "w;", "w;w;w;w;w;w;", "p0;", "h99;", "h99;w;"}) {
                Twins.undoable(Made::small, x -> {
                    long carriedOut = Made.write(x, text).carryOut();
                    x.clearText();
                    return carriedOut;
                });
            }
        });
        Sentences.says("Returns the number of orders that are carried out", () -> {
            Check.same("none", new MeetingOrders().carryOut(), 0);
            Check.same("one", Made.write(Made.small(), "p19;").carryOut(), 1);
            Check.same("many", Made.write(Made.small(), "w;".repeat(19) + "p19;".repeat(15)).carryOut(), 34);
        });
        Sentences.says("-10 minus the syntax error position if there is a syntax error (then nothing changes)", () -> {
            errorAnswers("x", -10);
            errorAnswers("w", -11);
            errorAnswers("w;x", -12);
            errorAnswers("w;p20;", -13);
            errorAnswers("p5;w;w;w;w;w;h100;", -26);
            errorAnswers("w;".repeat(49) + "w0", -109);
            errorAnswers("w;".repeat(49) + "p1", -110);
        });
    }

    private static void errorAnswers(String text, int due) {
        Twins.tells(text, due, () -> Made.write(Made.busy(), text), MeetingOrders::carryOut);
    }

    /** In the present week 1: the meetings 0 is missed, 1 held, 2 cancelled, 3 planned, 4 planned for the week 2. */
    private static MeetingOrders told() {
        MeetingOrders x = Made.small();
        x.plan(0, 0, 0, 0, 0);
        x.endWeek();
        for (int day = 0; day < 3; day++) {
            x.plan(0, 1, 4 * day, 0, 0);
        }
        x.plan(0, 2, 0, 0, 0);
        x.tell(1, true);
        x.cancel(2);
        return x;
    }

    /** The meeting 0 is not kept any more. */
    private static MeetingOrders dropped() {
        MeetingOrders x = Made.small();
        x.plan(0, 0, 0, 0, 0);
        return Made.atWeek(x, 5);
    }

    private static void stopsAt(Supplier<MeetingOrders> make, String order) {
        MeetingOrders x = Made.write(make.get(), "c019:6;" + order + "c019:5;");
        Check.same("the orders ahead of " + order, x.carryOut(), 1);
        Check.same("the one ahead of it is carried out", x.hours(0, 19), 6);
    }

    private static void upToTheFirst() {
        for (String order : new String[] {"c11:0;", "c719:0;", "c00:0;", "p0;", "h0;", "m0;", "h1;", "m1;", "h2;", "m2;",
            "h4;", "m4;", "h5;", "m5;", "h99;", "m99;"}) {
            stopsAt(EdgesOfText::told, order);
        }
        for (String order : new String[] {"c01:0;", "c019:0;", "p1;", "p19;", "h3;", "m3;", "w;"}) {
            MeetingOrders x = Made.write(told(), "c019:6;" + order + "c019:5;");
            Check.same("carried out with " + order, x.carryOut(), 3);
            Check.same("the last one is carried out", x.hours(0, 19), 5);
        }
        stopsAt(() -> Made.atWeek(Made.small(), 19), "w;");
        stopsAt(() -> Made.atWeek(Made.small(), 19), "p18;");
        stopsAt(() -> Made.atWeek(Made.small(), 19), "c018:0;");
        stopsAt(EdgesOfText::dropped, "h0;");
        stopsAt(EdgesOfText::dropped, "m0;");
        MeetingOrders full = Made.write(Made.keeping(60), "p1;p19;w;");
        Check.same("planning throws nothing when 60 are kept", full.carryOut(), 3);
    }

    private static void notCarriedOut() {
        for (String order : new String[] {"c11:0;", "c00:0;", "p0;", "h0;", "m1;", "h2;", "m4;", "h5;"}) {
            Supplier<MeetingOrders> due = () -> {
                MeetingOrders x = told();
                x.carryOut();
                return x;
            };
            MeetingOrders x = Made.write(told(), order + "w;p1;");
            Check.same("carried out with " + order, x.carryOut(), 0);
            x.clearText();
            Twins.goOnAlike(order + " ahead of others", x, due.get());
        }
    }
}
