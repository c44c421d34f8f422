/** The use of SlabDunes that README.md shows, as a program that runs. */
public final class DunesExample {
    public static void main(String[] args) {
        SlabDunes dunes = new SlabDunes();      // 6 rows, 10 columns, height 2
        int cells = dunes.begin(8, 12, 3);      // 8 rows, 12 columns, height 3
        dunes.setWind(0, 42);                   // to the right, with the number s = 42
        dunes.setFence(17, 10);                 // a fence with the capacity 10 on the cell 17
        int lifted = dunes.run(1000);           // 1000 steps
        System.out.println(cells + " cells, " + dunes.slabs() + " slabs, " + lifted + " times one was lifted");
        System.out.println("slabs that the fence has trapped: " + dunes.cell(17, 3));
        System.out.println("dunes of at least the height 5: " + dunes.dunes(5));

        int row = dunes.bestFence(3, 200);      // a question: the field stays as it is
        System.out.println("the best row for a fence in column 3: " + row);
        int saved = dunes.undo();               // back to before run()
        System.out.println("saved states left: " + saved + ", steps: " + dunes.count(0));

        for (char sign : "030/191/020".toCharArray()) {
            dunes.append(sign);                 // a field's text, byte by byte
        }
        System.out.println("cells of the field that was read: " + dunes.parse());

        try {
            dunes.run(2001);
        } catch (IllegalArgumentException e) {
            System.out.println("refused: 2001 steps are more than 2000");
        }
    }
}
