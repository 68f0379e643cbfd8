/** A house of five levels in which storey 1 is skipped, and the panels afterwards. */
public final class Example {
    public static void main(String[] args) {
        FloorPanels panels = new FloorPanels();

        // A house can be told as a text, the lowest level first; G is the ground.
        for (char c : "wGhww".toCharArray()) {
            panels.append(c);
        }
        show(panels.errorPosition());   // -1: NONE, the text is a house
        show(panels.load());            // 5: levels, 0 to 4

        // A name is 4 times a storey, and 1 more for a half floor, 2 more for a joined one.
        show(panels.level(0, 1));       // -4: the name of level 0, storey -1
        show(panels.level(2, 1));       // 1: of level 2, a half floor above the ground
        show(panels.level(4, 1));       // 8: of level 4, storey 2

        // At first all signs and buttons say nothing, and are wrong.
        show(panels.about(2));          // 5: wrong signs
        show(panels.putCar(0));         // 5: buttons of car 0 that were wrong, and are right now
        show(panels.about(3));          // 10: wrong buttons, of the cars 1 and 2
        show(panels.goes(0, 1, 8));     // 4: from the ground, the button 8 leads to level 4

        // Behind another numbering the buttons still say what they said.
        show(panels.ifSkipped(1));      // 17: signs and buttons that would be wrong
        show(panels.skip(1, true));     // 1: storey is skipped
        show(panels.level(3, 1));       // 8: the name of level 3 now
        show(panels.goes(0, 1, 8));     // 4: the button 8 still leads to level 4
        show(panels.putButton(0, 3));   // 4: what the button of level 3 said; it says 8 now
        show(panels.goes(0, 1, 8));     // 3: the lowest level whose button says 8
        show(panels.astray(0));         // 3: pairs; 8 leads from the levels 0 to 2 to 3, not to 4
        show(panels.rides(1, 4));       // 2: to level 3 first, from where 8 leads to level 4

        // Changes can be undone, or kept in a save slot.
        show(panels.undo());            // 2: states that are still remembered
        show(panels.save(0));           // 5: levels of the state that is saved
        show(panels.add(5, 0));         // 6: levels, with a whole one on top
        show(panels.restore(0));        // 5: levels again

        // What is out of range, or not possible now, throws an exception and changes nothing.
        try {
            panels.remove(1);
        } catch (IllegalStateException e) {
            show(panels.about(0));      // 5: levels, as the ground can't be removed
        }
    }

    private static void show(int answer) {
        System.out.println(answer);
    }
}
