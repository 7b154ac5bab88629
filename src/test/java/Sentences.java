/** Holds the program to sentences of the document, each by a test of its own. */
final class Sentences {
    /** What must hold if the sentence does. */
    interface Test {
        void run(Check check);
    }

    private int held = 0;
    private int broken = 0;

    void hold(String sentence, Test test) {
        Check check = new Check();
        String thrown = Check.thrownBy(() -> test.run(check));
        check.due("the test throws", thrown, "nothing");
        if (check.isFine()) {
            held++;
        } else {
            broken++;
            System.out.println("BROKEN: " + sentence);
        }
    }

    void end() {
        System.out.println(held + " sentences hold, " + broken + " broken");
        if (broken != 0 || held == 0) {
            System.exit(1);
        }
    }
}
