/** Promises 34 to 36: replies, edits, and what is hidden. */
final class ThreadsTest {
    private ThreadsTest() {
    }

    static void run(Check c) {
        replies(c);
        repliesThatAreRefused(c);
        hidden(c);
        edits(c);
        editsThatAreRefused(c);
        editsPartFamilies(c);
        editsKeep(c);
    }

    private static void replies(Check c) {
        ModHouse x = Houses.ruled(2, 'n', 0);
        x.post(0, 1);
        c.is("reply", x.reply(1, 0, 1), 1);
        c.is("reply to a reply", x.reply(0, 1, 255), 2);
        c.is("alike: a reply is of a family of its own", x.alike(0), 1);
        int d = Houses.decided(x, 1, 0, 0);
        c.is("reach without replies", x.reach(d), 1);
        c.is("reply to one that is narrowed", x.reply(1, 0, 0), 3);
        c.is("isHidden(1) under one that is narrowed", x.isHidden(1), false);
    }

    private static void repliesThatAreRefused(Check c) {
        ModHouse x = Houses.ruled(3, 'r', 3);
        x.post(0, 1);
        x.reply(1, 0, 0);
        x.post(1, 0);
        c.noIndex("reply(3, 0, 0)", () -> x.reply(3, 0, 0));
        c.noIndex("reply(-1, 0, 0)", () -> x.reply(-1, 0, 0));
        c.noIndex("reply(0, 3, 0)", () -> x.reply(0, 3, 0));
        c.noIndex("reply(0, -1, 256)", () -> x.reply(0, -1, 256));
        Houses.decided(x, 2, 0, 0);
        c.noArgument("reply(0, 0, 256)", () -> x.reply(0, 0, 256));
        c.noArgument("reply(1, 2, -1)", () -> x.reply(1, 2, -1));
        c.notAllowed("reply by one who is banned", () -> x.reply(0, 2, 0));
        c.notAllowed("reply to one that is removed", () -> x.reply(1, 0, 0));
        c.notAllowed("reply to one that is hidden", () -> x.reply(1, 1, 0));
        for (int i = 3; i < 50; i++) {
            c.is("reply", x.reply(1, 2, 0), i);
        }
        c.noState("reply beyond 50", () -> x.reply(1, 2, 0));
        c.notAllowed("reply to one that is removed, beyond 50", () -> x.reply(1, 0, 0));
    }

    private static void hidden(Check c) {
        ModHouse x = Houses.ruled(3, 'r', 0);
        x.post(0, 1);
        x.reply(1, 0, 0);
        x.reply(0, 1, 0);
        x.copy(2, 0);
        x.reply(2, 2, 1);
        c.is("isHidden(2) at first", x.isHidden(2), false);
        int d = Houses.decided(x, 2, 0, 0);
        c.is("isHidden(0), which is removed", x.isHidden(0), false);
        c.is("isHidden(1) under one that is removed", x.isHidden(1), true);
        c.is("isHidden(2) under one that is hidden", x.isHidden(2), true);
        c.is("isHidden(4) under two that are hidden", x.isHidden(4), true);
        c.is("stateOf(1) of one that is hidden", x.stateOf(1), '-');
        c.is("copy of one that is hidden", x.copy(2, 2), 5);
        c.is("isHidden(5): a copy is no reply", x.isHidden(5), false);
        c.is("report of one that is hidden", x.report(0, 1, 0), 10);
        c.is("edit of one that is hidden", x.edit(2, 4), 0);
        c.is("isHidden(2), still a reply", x.isHidden(2), true);
        x.takeBack(d);
        c.is("isHidden(1) when it stands no more", x.isHidden(1), false);
        c.noIndex("isHidden(6)", () -> x.isHidden(6));
        c.noIndex("isHidden(-1)", () -> x.isHidden(-1));
    }

    private static void edits(Check c) {
        ModHouse x = Houses.ruled(2, 'l', 0);
        x.post(0, 1);
        x.pass(1);
        x.change(0, 2, 0, 'n', 0);
        x.addRule(4, 0, 'n', 0);
        c.is("breaks(0, 0) by the first version", x.breaks(0, 0), true);
        c.noElement("breaks(0, 1) that does not bind", () -> x.breaks(0, 1));
        c.is("edit by the same marks", x.edit(0, 1), 1);
        c.is("breaks(0, 0) as if posted today", x.breaks(0, 0), false);
        c.is("breaks(0, 1) as if posted today", x.breaks(0, 1), false);
        c.is("edit by other marks", x.edit(0, 6), 1);
        c.is("breaks(0, 0)", x.breaks(0, 0), true);
        c.is("breaks(0, 1)", x.breaks(0, 1), true);
        c.is("edit answers those before", x.edit(0, 255), 6);
        c.is("edit by 0", x.edit(0, 0), 255);
    }

    private static void editsThatAreRefused(Check c) {
        ModHouse x = Houses.ruled(4, 'l', 3);
        x.addRule(1, 0, 'l', 0);
        x.post(0, 1);
        x.post(1, 1);
        x.post(0, 0);
        c.noIndex("edit(3, 0)", () -> x.edit(3, 0));
        c.noIndex("edit(-1, 256)", () -> x.edit(-1, 256));
        c.noArgument("edit(0, 256)", () -> x.edit(0, 256));
        c.noArgument("edit(0, -1)", () -> x.edit(0, -1));
        x.report(3, 1, 1);
        c.notAllowed("edit of one with a report that waits", () -> x.edit(1, 0));
        int l = x.decide(0, 1, 1);
        c.notAllowed("edit of one on which a decision acts", () -> x.edit(1, 0));
        x.takeBack(l);
        c.is("edit when it stands no more", x.edit(1, 1), 1);
        int d = Houses.decided(x, 3, 0, 0);
        c.notAllowed("edit by one who is banned", () -> x.edit(2, 0));
        x.takeBack(d);
        c.is("edit by one who is banned no more", x.edit(2, 0), 0);
        x.join(0, 1);
        Houses.decided(x, 2, 1, 0);
        c.notAllowed("edit by one who is banned by another account", () -> x.edit(2, 0));
    }

    private static void editsPartFamilies(Check c) {
        ModHouse x = Houses.ruled(4, 'n', 0);
        x.post(0, 1);
        x.copy(1, 0);
        x.copy(2, 1);
        x.copy(2, 0);
        x.edit(1, 1);
        c.is("alike: three are of another family now", x.alike(1), 3);
        x.copy(3, 1);
        int d = Houses.decided(x, 3, 2, 0);
        c.is("reach: its copies stay with what they are copies of", x.reach(d), 3);
        c.is("stateOf(1)", x.stateOf(1), '-');
        c.is("stateOf(4) of a copy of what was edited", x.stateOf(4), '-');
        int e = Houses.decided(x, 2, 1, 0);
        c.is("reach with its new copy", x.reach(e), 2);
        x.takeBack(d);
        x.edit(2, 1);
        c.is("alike", x.alike(2), 4);
    }

    private static void editsKeep(Check c) {
        ModHouse x = Houses.ruled(3, 'r', 0);
        x.post(0, 1);
        x.reply(1, 0, 0);
        x.order(1, 0, 0);
        x.obey(0);
        x.view(0, 0, 9);
        x.view(0, 1, 3);
        int d = Houses.decided(x, 1, 0, 0);
        x.view(0, 0, 5);
        x.takeBack(d);
        x.edit(0, 1);
        c.is("seen(0) is kept", x.seen(0), 9);
        c.is("lost(0) is kept", x.lost(0), 8);
        c.is("owed(0) is kept", x.owed(0), 5);
        c.is("heat(0) is kept", x.heat(0), 14);
        c.is("view where it is withheld", x.view(0, 1, 9), 0);
        Houses.decided(x, 2, 0, 0);
        c.is("isHidden(1): its replies are kept", x.isHidden(1), true);
    }
}
