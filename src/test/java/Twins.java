/** Two desks of one story; of one of them more is asked. */
final class Twins {
    interface Story {
        void on(Bench b);
    }

    interface Ask {
        long of(Desk desk);
    }

    /**
     * A paper of each make (0 PLAIN, 1 STYLED, 2 TABLE, 3 LIST), a PIECE of each sort (0 ROW, 1 BOX, 2
     * ITEMS), one PINNED, one ROW HIDDEN, ACTS, LOSSES and OUT; the tape is empty.
     */
    static final Story FURNISHED = b -> {
        b.row(Bench.PLAIN, "ab\tc");
        int styled = b.desk.paper(Bench.STYLED);
        b.desk.style(styled, 5, 50);
        b.desk.style(styled, 6, 60);
        b.type(styled, 0, 1, "x");
        b.type(styled, 1, 2, "y");
        b.type(styled, 2, 0, "z");
        int table = b.table(new String[] {"p", "q"});
        b.cell(table, 5, 5, "r");
        b.desk.hide(table, 2, true);
        int list = b.list("0one", "1two", "2tre");
        b.desk.copyRow(styled, 0, 3, false);
        b.desk.copyBox(table, 0, 0, 2, 1, false);
        b.desk.copyItems(list, 0, 2, false);
        b.desk.pin(1, true);
        b.desk.putRow(0, 0, 1, 0);
        b.desk.plain(2);
    };

    /** The same, with 20 bytes on the tape. */
    static final Story FED = b -> {
        FURNISHED.on(b);
        b.feed("typed on the tape");
    };

    private final Check check;

    Twins(Check check) {
        this.check = check;
    }

    /** The call answers so, and all is as if it hadn't been made. */
    void unchanged(String what, Story story, Ask ask, String due) {
        alike(what, story, ask, due, story);
    }

    void none(String what, Story story, Ask ask) {
        unchanged(what, story, ask, "-1");
    }

    void noSuch(String what, Story story, Ask ask) {
        unchanged(what, story, ask, Check.NO_SUCH);
    }

    /** The call answers so, and all is as behind the other story. */
    void alike(String what, Story story, Ask ask, String due, Story other) {
        Bench asked = new Bench();
        story.on(asked);
        check.same(what, Check.answerOf(() -> ask.of(asked.desk)), due);
        Bench twin = new Bench();
        other.on(twin);
        check.same(what + ", and what is seen then,", Sight.of(asked), Sight.of(twin));
    }
}
