/** Runs every test of the project. */
final class AllTests {
    private AllTests() {
    }

    public static void main(String[] arguments) {
        Check c = new Check();
        UseTest.run(c);
        FaceTest.run(c);
        LanguageTest.run(c);
        PeopleTest.run(c);
        RulesTest.run(c);
        ReportsTest.run(c);
        DecisionsTest.run(c);
        AppealsTest.run(c);
        LandsTest.run(c);
        ThreadsTest.run(c);
        ClassifiersTest.run(c);
        LikenessTest.run(c);
        FeedTest.run(c);
        NumbersTest.run(c);
        RefusalsTest.run(c);
        RangesTest.run(c);
        LimitsTest.run(c);
        DaysTest.run(c);
        EdgesTest.run(c);
        RandomRunsTest.run(c);
        RoomTest.run(c);
        if (!c.close()) {
            System.exit(1);
        }
    }
}
