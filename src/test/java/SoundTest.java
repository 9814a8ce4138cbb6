import java.lang.reflect.Array;
import java.lang.reflect.Field;

/**
 * Promise 41, isSound: no run of calls makes an office unsound, so this breaks one from behind, at the private fields,
 * and asks whether it is told.
 */
final class SoundTest {
    private SoundTest() {
    }

    static void runAll(Check check) {
        check.due("41: the office before it is broken", soundOffice().isSound(), true);
        broken(check, "a run without words", "runs", 1, "size", 0);
        broken(check, "a first run without words", "runs", 0, "size", 0);
        broken(check, "a run with more words than its story has", "runs", 1, "size", 4);
        broken(check, "a run without room for its lines", "runs", 2, "room", 1);
        broken(check, "a run with room enough", "runs", 2, "room", 2, true);
        broken(check, "a story in one paper twice", "runs", 1, "paper", 0);
        broken(check, "a first run in the paper of another", "runs", 0, "paper", 1);
        broken(check, "more settled than paid", "runs", 2, "settled", true, true);
        broken(check, "a paid run that is not settled", "runs", 0, "settled", false);
        broken(check, "less pay than was paid", "runs", 0, "sum", 1);
        broken(check, "a story that comes from itself", "stories", 0, "source", 0);
        broken(check, "a story that comes from its version", "stories", 0, "source", 1);
        paid(check);
    }

    /** Three runs of three words each, 5 and 5 | 5 signs; the first two are of story 0, and one of them is settled. */
    private static LinageOffice soundOffice() {
        LinageOffice office = Desk.withKinds("fff");
        office.addHand();
        Desk.waitTill(office, 12);
        Desk.story(office, 0, 0, 1, 2);
        office.fork(1, 0);
        Desk.story(office, 9, 0, 1, 2, 2, 1);
        office.addPaper(0, 12, 10, 0, 0);
        office.addPaper(0, 12, 10, 0, 0);
        office.run(0, 0, 9);
        office.run(0, 1, 9);
        office.run(1, 0, 2);
        office.claim(0, 0, 30);
        office.settle(0, 0);
        return office;
    }

    private static void broken(Check check, String told, String list, int place, String field, Object value) {
        broken(check, told, list, place, field, value, false);
    }

    private static void broken(Check check, String told, String list, int place, String field, Object value,
            boolean due) {
        LinageOffice office = soundOffice();
        set(Array.get(get(office, list), place), field, value);
        check.due("41: " + told, office.isSound(), due);
    }

    private static void paid(Check check) {
        LinageOffice office = soundOffice();
        Array.setLong(get(office, "paidTo"), 1, 1);
        check.due("41: a hand that was paid for nothing", office.isSound(), false);
    }

    private static Object get(Object on, String field) {
        try {
            return opened(on, field).get(on);
        } catch (ReflectiveOperationException e) {
            throw new IllegalStateException(e);
        }
    }

    private static void set(Object on, String field, Object value) {
        try {
            opened(on, field).set(on, value);
        } catch (ReflectiveOperationException e) {
            throw new IllegalStateException(e);
        }
    }

    private static Field opened(Object on, String field) throws ReflectiveOperationException {
        Field opened = on.getClass().getDeclaredField(field);
        opened.setAccessible(true);
        return opened;
    }
}
