import java.util.Random;

/** The least pulls of many greenhouses, against the model that tries out all pulls. */
public final class LeastModelTest {
    public static void main(String[] arguments) {
        Random random = new Random(20261118);
        int found = 0;
        int brought = 0;
        int houses = 1500;
        for (int house = 0; house < houses; house++) {
            Used program = new Used();
            Model model = new Model();
            int shades = 1 + random.nextInt(8);
            int all = (1 << shades) - 1;
            for (int k = 0; k < shades; k++) {
                program.shade(6, 0);
                model.shade(6, 0);
            }
            int strings = random.nextInt(5);
            for (int s = 0; s < strings; s++) {
                int up = random.nextInt() & all;
                int down = random.nextInt() & all & ~up;
                program.string(up, down);
                model.string(up, down);
            }
            int wild = random.nextInt(3);
            for (int i = 0; i < wild && strings > 0; i++) {
                int string = random.nextInt(strings);
                int steps = 1 + random.nextInt(9);
                program.pull(string, steps);
                model.pull(string, steps);
            }
            int told = random.nextInt(4);
            for (int i = 0; i < told; i++) {
                int shade = random.nextInt(shades);
                int height = random.nextInt(10);
                program.tell(shade, height);
                model.tell(shade, height);
            }
            String name = "house " + house + ": ";
            for (int string = -1; string < strings; string++) {
                int due = model.leastPulls(string);
                Check.due(name + "leastPulls(" + string + ")", program.leastPulls(string), due);
                found += string == -1 && due > 0 ? 1 : 0;
            }
            int due = model.reallyDo();
            brought += due == 1 ? 1 : 0;
            Check.due(name + "reallyDo()", program.reallyDo(), due);
        }
        // else the houses would show too little
        Check.holds("enough houses with pulls", found > houses / 4 && found < houses);
        Check.holds("enough houses where they do it", brought > houses / 10 && brought < houses);
        Check.end();
    }
}
