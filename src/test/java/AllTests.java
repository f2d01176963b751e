/** Runs every test of the project; its argument is the path of Nearplaces.java. */
final class AllTests {
    private AllTests() {
    }

    public static void main(String[] args) {
        FaceTests.run();
        LanguageTests.run(args[0]);
        PromiseTests.run();
        SoundnessTests.run();
        ModelTests.run();
        if (!Check.tell()) {
            System.exit(1);
        }
    }
}
