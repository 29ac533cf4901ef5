import java.lang.reflect.Array;
import java.lang.reflect.Field;

/** No call of the face can make a house untrue, so this test breaks its fields and asks whether isTrue sees it. */
final class IsTrueTest {
    private int wrong;

    public static void main(String[] args) throws ReflectiveOperationException {
        IsTrueTest test = new IsTrueTest();
        test.breakPlates();
        test.breakSheets();
        test.breakEditions();
        test.breakStates();
        System.out.println("IsTrueTest: " + test.wrong + " wrong");
        System.exit(test.wrong == 0 ? 0 : 1);
    }

    private static AquatintHouse house() {
        AquatintHouse house = new AquatintHouse();
        house.plate('z', 2, 2);
        house.plate('z', 2, 2);
        for (int i = 0; i < 4; i++) {
            house.work(1, 'b', 0, 0, 0, 0, 9);
            pull(house, 0);
            pull(house, 1);
        }
        house.edition(0, 3);
        house.enter(0, 0, 'e');
        house.enter(0, 2, 'e');
        return house;
    }

    private static void pull(AquatintHouse house, int plate) {
        house.ink(plate, 3, 9, 0, 0);
        house.wipe(plate, 'p');
        house.pull(plate, 0, 0, 9);
    }

    private void breakPlates() throws ReflectiveOperationException {
        String[] grids = {"depth", "burr", "trace"};
        int[] mosts = {99, 9, 9};
        for (int plate = 0; plate < 2; plate++) {
            for (int i = 0; i < grids.length; i++) {
                AquatintHouse house = house();
                int[] numbers = numbers(of(house, "plateList", plate), grids[i]);
                numbers[0] = mosts[i];
                due(house, true, grids[i] + " at its most");
                numbers[0] = mosts[i] + 1;
                due(house, false, grids[i] + " above its most");
                numbers[0] = -1;
                due(house, false, grids[i] + " below 0");
            }
        }
    }

    private void breakSheets() throws ReflectiveOperationException {
        for (int i = 0; i < 8; i++) {
            AquatintHouse house = house();
            Object sheet = of(house, "sheetList", i);
            numbers(sheet, "darkness")[1] = 1;
            due(house, false, "the sheet " + i + " darker than its pull");
            set(sheet, "plateBits", 3);
            due(house, true, "the sheet " + i + " of two plates");
        }
    }

    private void breakEditions() throws ReflectiveOperationException {
        for (int i = 0; i < 3; i += 2) {
            AquatintHouse house = house();
            set(of(house, "sheetList", i), "numberInEdition", 3);
            due(house, false, "a number that does not rise from 1");
            house = house();
            set(get(of(house, "sheetList", i), "first"), "state", 2);
            due(house, false, "a number of another state");
        }
    }

    private void breakStates() throws ReflectiveOperationException {
        AquatintHouse house = house();
        due(house, true, "a house as it is made");
        set(of(house, "pullList", 3), "state", 5);
        due(house, false, "a state that falls");
        house = house();
        set(of(house, "pullList", 1), "state", 0);
        due(house, false, "a state below 1");
        house = house();
        set(of(house, "pullList", 4), "state", 2);
        due(house, false, "a state that falls, of the first plate");
        house = new AquatintHouse();
        house.plate('z', 2, 2);
        pull(house, 0);
        pull(house, 0);
        due(house, true, "a house of one plate");
        set(of(house, "pullList", 0), "state", 2);
        due(house, false, "a state that falls, of the only plate");
    }

    private static int[] numbers(Object owner, String grid) throws ReflectiveOperationException {
        return (int[]) get(get(owner, grid), "numbers");
    }

    private static Object of(AquatintHouse house, String list, int i) throws ReflectiveOperationException {
        return Array.get(get(house, list), i);
    }

    private static Object get(Object owner, String name) throws ReflectiveOperationException {
        Field field = owner.getClass().getDeclaredField(name);
        field.setAccessible(true);
        return field.get(owner);
    }

    private static void set(Object owner, String name, int number) throws ReflectiveOperationException {
        Field field = owner.getClass().getDeclaredField(name);
        field.setAccessible(true);
        field.set(owner, number);
    }

    private void due(AquatintHouse house, boolean due, String what) {
        if (house.isTrue() != due) {
            wrong++;
            System.out.println("isTrue did not answer " + due + " for " + what);
        }
    }
}
