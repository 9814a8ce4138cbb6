/** The document's three examples, call by call. */
final class ExampleTest {
    private ExampleTest() {
    }

    static void runAll(Check check) {
        padding(check);
        oneLine(check);
        oneShingle(check);
    }

    private static void padding(Check check) {
        LinageOffice office = new LinageOffice();
        check.due("example 1: addWord", office.addWord(5, 'f', 0), 0);
        check.due("example 1: addWord", office.addWord(3, 'e', 0), 1);
        check.due("example 1: addHand", office.addHand(), 0);
        check.due("example 1: file", office.file(0, 0), 0);
        check.due("example 1: write", office.write(0, 0), 1);
        check.due("example 1: write", office.write(0, 1), 2);
        check.due("example 1: addPaper", office.addPaper(1, 12, 2, 0, 0), 0);
        check.due("example 1: count", office.count(0, 0), 9);
        check.due("example 1: lines", office.lines(0, 0), 1);
        check.due("example 1: padding", office.padding(0), 1);
    }

    private static void oneLine(Check check) {
        LinageOffice office = new LinageOffice();
        check.due("example 2: addWord", office.addWord(8, 'f', 0), 0);
        check.due("example 2: addHand", office.addHand(), 0);
        check.due("example 2: file", office.file(0, 0), 0);
        check.due("example 2: write", office.write(0, 0), 1);
        check.due("example 2: write", office.write(0, 0), 2);
        check.due("example 2: addPaper", office.addPaper(2, 12, 10, 0, 0), 0);
        check.due("example 2: lines", office.lines(0, 0), 2);
        check.due("example 2: badness", office.badness(0, 0), 16);
        check.due("example 2: pass", office.pass(6), 6);
        check.due("example 2: run", office.run(0, 0, 1), 0);
        check.due("example 2: ran", office.ran(0), 1);
        check.due("example 2: pay", office.pay(0), 10);
    }

    private static void oneShingle(Check check) {
        LinageOffice office = new LinageOffice();
        check.due("example 3: addWord", office.addWord(2, 'f', 0), 0);
        check.due("example 3: addHand", office.addHand(), 0);
        check.due("example 3: file", office.file(0, 0), 0);
        for (int i = 1; i <= 4; i++) {
            check.due("example 3: write", office.write(0, 0), i);
        }
        check.due("example 3: shingles", office.shingles(0), 1);
        check.due("example 3: likeness", office.likeness(0, 0), 100);
    }
}
