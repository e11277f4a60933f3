/** Objects for tests to start from. */
final class Made {
    static final int ALL = 268435455;

    private Made() {
    }

    /** A venue with two rooms, an escort with all slots, and an order with two hours. */
    static MeetingOrders small() {
        MeetingOrders x = new MeetingOrders();
        x.addVenue(2);
        x.addEscort(ALL, 20);
        x.addOrder(2, 1);
        return x;
    }

    /** Room for all: eight orders with seven hours, six escorts with all slots, five venues with four rooms. */
    static MeetingOrders large() {
        return roomy(8, 7);
    }

    static MeetingOrders roomy(int orders, int hours) {
        MeetingOrders x = new MeetingOrders();
        for (int i = 0; i < 5; i++) {
            x.addVenue(4);
        }
        for (int i = 0; i < 6; i++) {
            x.addEscort(ALL, 20);
        }
        for (int i = 0; i < orders; i++) {
            x.addOrder(hours, 31);
        }
        return x;
    }

    /** So many kept meetings, all planned: 56 of the week 1 at most, the others of the week 2. */
    static MeetingOrders keeping(int meetings) {
        MeetingOrders x = large();
        for (int i = 0; i < meetings; i++) {
            int inWeek = i % 56;
            int slot = inWeek / 8 * 4 + inWeek % 8 / 4;
            x.plan(inWeek % 8, 1 + i / 56, slot, i % 4, i % 5);
        }
        return x;
    }

    /**
     * Something of everything that a refused call could spoil. The present week is 2; of the meetings 0 is missed in
     * the week 0, 1 held, 2 missed, 3 cancelled, 4 and 5 planned in the present week, 6 planned in the week 5.
     */
    static MeetingOrders busy() {
        MeetingOrders x = new MeetingOrders();
        x.addVenue(1);
        x.addVenue(3);
        x.addEscort(ALL, 4);
        x.addEscort(0b1001_0001, 20);
        x.addOrder(2, 1);
        x.addOrder(3, 3);
        x.plan(0, 0, 0, 0, 0);
        x.endWeek();
        x.endWeek();
        x.plan(1, 2, 0, 0, 0);
        x.plan(1, 2, 4, 1, 1);
        x.plan(1, 2, 8, 0, 1);
        x.plan(0, 2, 1, 0, 0);
        x.plan(0, 2, 7, 1, 0);
        x.plan(1, 5, 9, 0, 1);
        x.tell(1, true);
        x.tell(2, false);
        x.cancel(3);
        write(x, "p4;h4;w;c13:5;");
        return x;
    }

    static MeetingOrders atWeek(MeetingOrders x, int week) {
        for (int present = x.value(4); present < week; present++) {
            x.endWeek();
        }
        return x;
    }

    static MeetingOrders write(MeetingOrders x, String text) {
        x.clearText();
        for (int i = 0; i < text.length(); i++) {
            x.append(text.charAt(i));
        }
        return x;
    }

    /** The same object with an empty text and without saved states: four that change nothing push the others out. */
    static MeetingOrders unsaved(MeetingOrders x) {
        x.clearText();
        for (int i = 0; i < 4; i++) {
            x.carryOut();
        }
        for (int i = 0; i < 4; i++) {
            x.undo();
        }
        return x;
    }
}
