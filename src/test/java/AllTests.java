/** Runs every test of the project; an argument tells how many runs the model test makes. */
public final class AllTests {
    private AllTests() {
    }

    public static void main(String[] args) {
        SeaTest.run();
        HeatTest.run();
        RightTest.run();
        RideTest.run();
        RankTest.run();
        EventTest.run();
        TourTest.run();
        SumTest.run();
        RangeTest.run();
        LimitTest.run();
        RefusalTest.run();
        OrderTest.run();
        SmallWorldTest.run();
        FaceTest.run();
        LanguageTest.run(java.nio.file.Path.of("src/main/java/Prioritywave.java"));
        SentenceTest.run(java.nio.file.Path.of("../shared/DOC.md"), java.nio.file.Path.of("src/test/SENTENCES.md"));
        ReadmeTest.run(java.nio.file.Path.of("README.md"), java.nio.file.Path.of("src/test/java"));
        MachineTest.run();
        ModelTest.run(args.length > 0 ? Integer.parseInt(args[0]) : 1000);
        System.out.println(Check.passed() + " passed, " + Check.failed() + " failed");
        if (Check.failed() > 0 || Check.passed() == 0) {
            System.exit(1);
        }
    }
}
